set_option maxHeartbeats 4000000 in
set_option maxRecDepth 100000 in
theorem w_X12_in (l : Launch) (D : va_G) (cI cS : ClassId) (x0 x1 x2 : Int32) : Met l yX12_in wsX12_in ({ frames := 0, cells := 0, slots := 0, locals := 0 }) (PS D cI cS [] [.int x0, .int x1, .int x2]) (vp_Si (fun r => Rg 0 1 r ∧ (r = 0 → (x0.toInt < x1.toInt ∨ x2.toInt < x0.toInt)) ∧ (r ≠ 0 → x1.toInt ≤ x0.toInt ∧ x0.toInt ≤ x2.toInt))) 0 0 (fun _ => False) := by
  refine Met.ofW (cc := cX12_in) (maxL := 3) (ret := (some .boolean)) (by decide) rfl ?_
  intro p e s m args below meth c s₁ B hml hv
  obtain ⟨rfl, hP, hKK⟩ := hv
  have hx := B.exec
  have hb := B.bytes
  have hr := B.returns
  have hts := atoms_spec (ws := wsX12_in) B.pre
  have hown : s.vm.findClass RX12 = some m.cls := findClass_of_methodNamed B.named
  have hlocks := B.notSynchronized
  have hK := hKK.1
  have hl := lv_entry ([.int x0, .int x1, .int x2]) (n := 3) (Nat.le_of_ble_eq_true rfl)
  rw [lg_entry_eq]
  generalize (lg_sl ([.int x0, .int x1, .int x2]) ++ List.replicate (3 - (lg_sl ([.int x0, .int x1, .int x2])).length) Slot.unset).toArray = ls at hl ⊢
  have hl : lv_has ls 3 [(0, .int x0), (1, .int x1), (2, .int x2)] := hl
  refine lv_iload_n hx hb dX12_in_0 rfl (lv_at hl 0 rfl) ?_
  refine lv_iload_n hx hb dX12_in_1 rfl (lv_at hl 1 rfl) ?_
  refine lv_icmp_lt (tgt := 14) hx hb dX12_in_2 (by decide) (fun c3 => ?_) (fun c3 => ?_)
  · refine lv_iconst (v := 0) hx hb dX12_in_14 (by decide) ?_
    exact W.zret (v := 0) hx hb hr (by decide) (fun t ht hW => ⟨_, rfl, ⟨(by decide : Rg 0 1 (0 : Int32)), fun _ => (by have y90 : x0.toInt < x1.toInt := (lz_lt _ _).mp c3; have y9c1 : (0 : Int32).toInt = 0 := (by decide); have y9c2 : (1 : Int32).toInt = 1 := (by decide); omega), fun h9 => absurd rfl h9⟩, ht⟩) (fun q hq => absurd hq List.not_mem_nil) dX12_in_15
  · refine lv_iload_n hx hb dX12_in_5 rfl (lv_at hl 0 rfl) ?_
    refine lv_iload_n hx hb dX12_in_6 rfl (lv_at hl 2 rfl) ?_
    refine lv_icmp_gt (tgt := 14) hx hb dX12_in_7 (by decide) (fun c4 => ?_) (fun c4 => ?_)
    · refine lv_iconst (v := 0) hx hb dX12_in_14 (by decide) ?_
      exact W.zret (v := 0) hx hb hr (by decide) (fun t ht hW => ⟨_, rfl, ⟨(by decide : Rg 0 1 (0 : Int32)), fun _ => (by have y90 : x1.toInt ≤ x0.toInt := (lz_le _ _).mp (rg_nlt c3); have y91 : x2.toInt < x0.toInt := (lz_lt _ _).mp c4; have y9c2 : (0 : Int32).toInt = 0 := (by decide); have y9c3 : (1 : Int32).toInt = 1 := (by decide); omega), fun h9 => absurd rfl h9⟩, ht⟩) (fun q hq => absurd hq List.not_mem_nil) dX12_in_15
    · refine lv_iconst (v := 1) hx hb dX12_in_10 (by decide) ?_
      refine lv_goto (tgt := 15) hx hb dX12_in_11 (by decide) ?_
      exact W.zret (v := 1) hx hb hr (by decide) (fun t ht hW => ⟨_, rfl, ⟨(by decide : Rg 0 1 (1 : Int32)), fun h9 => absurd h9 (by decide), fun _ => ⟨(lz_le _ _).mp (rg_nlt c3), (lz_le _ _).mp (rg_nlt c4)⟩⟩, ht⟩) (fun q hq => absurd hq List.not_mem_nil) dX12_in_15
set_option maxHeartbeats 4000000 in
set_option maxRecDepth 100000 in
theorem w_X12_has (l : Launch) (D : va_G) (cI cS : ClassId) (x0 x1 : Int32) : Met l yX12_has wsX12_has ({ frames := 0, cells := 0, slots := 0, locals := 0 }) (PS D cI cS [] [.int x0, .int x1]) (vp_Si (fun r => Rg 0 1 r ∧ ((r ≠ 0 → hb x0 x1) ∧ (r = 0 → ¬ hb x0 x1)))) 0 0 (fun _ => False) := by
  refine Met.ofW (cc := cX12_has) (maxL := 2) (ret := (some .boolean)) (by decide) rfl ?_
  intro p e s m args below meth c s₁ B hml hv
  obtain ⟨rfl, hP, hKK⟩ := hv
  have hx := B.exec
  have hb := B.bytes
  have hr := B.returns
  have hts := atoms_spec (ws := wsX12_has) B.pre
  have hown : s.vm.findClass RX12 = some m.cls := findClass_of_methodNamed B.named
  have hlocks := B.notSynchronized
  have hK := hKK.1
  have hl := lv_entry ([.int x0, .int x1]) (n := 2) (Nat.le_of_ble_eq_true rfl)
  rw [lg_entry_eq]
  generalize (lg_sl ([.int x0, .int x1]) ++ List.replicate (2 - (lg_sl ([.int x0, .int x1])).length) Slot.unset).toArray = ls at hl ⊢
  have hl : lv_has ls 2 [(0, .int x0), (1, .int x1)] := hl
  refine lv_iload_n hx hb dX12_has_0 rfl (lv_at hl 0 rfl) ?_
  refine lv_iload_n hx hb dX12_has_1 rfl (lv_at hl 1 rfl) ?_
  refine lv_ishr hx hb dX12_has_2 ?_
  refine wk_topP (P := fun r => r = x0 >>> (x1 &&& 31)) rfl (fun r10 qr10 => ?_)
  refine lv_iconst (v := 1) hx hb dX12_has_3 (by decide) ?_
  refine wk_iandr hx hb dX12_has_4 (by decide : Rg 1 1 (1 : Int32)) (by decide) (fun r11 hr11 qr11 => ?_)
  refine lv_iconst (v := 1) hx hb dX12_has_5 (by decide) ?_
  refine lv_icmp_ne (tgt := 13) hx hb dX12_has_6 (by decide) (fun c12 => ?_) (fun c12 => ?_)
  · have g13 : Rg 0 0 r11 := rg_ne_hi (k := 1) hr11 (by decide) c12 (by decide)
    refine lv_iconst (v := 0) hx hb dX12_has_13 (by decide) ?_
    exact W.zret (v := 0) hx hb hr (by decide) (fun t ht hW => ⟨_, rfl, ⟨(by decide : Rg 0 1 (0 : Int32)), ⟨fun h9 => absurd rfl h9, fun _ z => c12 (by rw [qr11, qr10]; exact z)⟩⟩, ht⟩) (fun q hq => absurd hq List.not_mem_nil) dX12_has_14
  · have g14 : Rg 1 1 r11 := wk_eql hr11 (by decide : Rg 1 1 (1 : Int32)) c12 (by decide)
    refine lv_iconst (v := 1) hx hb dX12_has_9 (by decide) ?_
    refine lv_goto (tgt := 14) hx hb dX12_has_10 (by decide) ?_
    exact W.zret (v := 1) hx hb hr (by decide) (fun t ht hW => ⟨_, rfl, ⟨(by decide : Rg 0 1 (1 : Int32)), ⟨fun _ => (show (x0 >>> (x1 &&& 31)) &&& 1 = 1 by rw [← qr10, ← qr11]; exact c12), fun h9 => absurd h9 (by decide)⟩⟩, ht⟩) (fun q hq => absurd hq List.not_mem_nil) dX12_has_14
set_option maxHeartbeats 4000000 in
set_option maxRecDepth 100000 in
theorem w_X12_bits (l : Launch) (D : va_G) (cI cS : ClassId) (x0 : Int32) : Met l yX12_bits wsX12_bits ({ frames := 0, cells := 0, slots := 0, locals := 0 }) (PS D cI cS [] [.int x0]) (vp_Si (fun r => Rg (-2147483648) 2147483647 r ∧ (x0 = 0 → r = 0))) 0 0 (fun _ => False) := by
  refine Met.ofW (cc := cX12_bits) (maxL := 3) (ret := (some .int)) (by decide) rfl ?_
  intro p e s m args below meth c s₁ B hml hv
  obtain ⟨rfl, hP, hKK⟩ := hv
  have hx := B.exec
  have hb := B.bytes
  have hr := B.returns
  have hts := atoms_spec (ws := wsX12_bits) B.pre
  have hown : s.vm.findClass RX12 = some m.cls := findClass_of_methodNamed B.named
  have hlocks := B.notSynchronized
  have hK := hKK.1
  have hl := lv_entry ([.int x0]) (n := 3) (Nat.le_of_ble_eq_true rfl)
  rw [lg_entry_eq]
  generalize (lg_sl ([.int x0]) ++ List.replicate (3 - (lg_sl ([.int x0])).length) Slot.unset).toArray = ls at hl ⊢
  have hl : lv_has ls 3 [(0, .int x0)] := hl
  have lp4 : ∀ (n4 : Nat) (y4_l1 : Int32) (y4_l2 : Int32) (ls : Array Slot), (x0 = 0 → y4_l1 = 0 ∧ y4_l2 = 0) → lv_has ls 3 [(1, .int y4_l1), (2, .int y4_l2)] → (y4_l2.toBitVec.toNat : Int) < (n4 : Int) → W p l e (headSpec wsX12_bits ({ frames := 0, cells := 0, slots := 0, locals := 0 })).room s m ([.int x0]).toArray below meth c s.heap [] 0 0 (MQ below (vp_Si (fun r => Rg (-2147483648) 2147483647 r ∧ (x0 = 0 → r = 0))) ([.int x0]).toArray s 0 0 (fun _ => False)) (F0 m 4 ls []) := by
    intro n4
    induction n4 with
    | zero =>
      intro y4_l1 y4_l2 ls x4_0 hl hm4
      exact False.elim (by omega)
    | succ n4 ih4 =>
      intro y4_l1 y4_l2 ls x4_0 hl hm4
      refine lv_iload_n hx hb dX12_bits_4 rfl (lv_at hl 1 rfl) ?_
      refine lv_if_eq (tgt := 20) hx hb dX12_bits_5 (by decide) (fun c160 => ?_) (fun c160 => ?_)
      · have g161 : Rg 0 0 y4_l2 := wk_eql (rg_any y4_l2) (by decide : Rg 0 0 (0 : Int32)) c160 (by decide)
        refine lv_iload_n hx hb dX12_bits_20 rfl (lv_at hl 0 rfl) ?_
        exact W.iret (v := y4_l1) hx hb hr (fun t ht hW => ⟨_, rfl, ⟨(rg_any y4_l1), (fun z => (x4_0 z).1)⟩, ht⟩) (fun q hq => absurd hq List.not_mem_nil) dX12_bits_21
      · refine wk_iincA (lv' := fun r => [(1, .int r), (2, .int y4_l2)]) hx hb dX12_bits_8 hl (k := 0) rfl (by decide) (fun _ => rfl) (fun r162 ls hl => ?_)
        refine lv_iload_n hx hb dX12_bits_11 rfl (lv_at hl 1 rfl) ?_
        refine lv_iload_n hx hb dX12_bits_12 rfl (lv_at hl 1 rfl) ?_
        refine lv_iconst (v := 1) hx hb dX12_bits_13 (by decide) ?_
        refine lv_isub hx hb dX12_bits_14 ?_
        refine wk_topP (P := fun r => r = y4_l2 - (1 : Int32)) rfl (fun r163 qr163 => ?_)
        refine lv_iand hx hb dX12_bits_15 ?_
        refine wk_topP (P := fun r => r = y4_l2 &&& r163) rfl (fun r164 qr164 => ?_)
        refine lv_istore_n (lv' := [(2, .int r164), (1, .int r162)]) hx hb dX12_bits_16 rfl hl (by decide) rfl (fun ls hl => ?_)
        refine lv_goto (tgt := 4) hx hb dX12_bits_17 (by decide) ?_
        exact ih4 r162 r164 ls (by exact fun z => absurd (x4_0 z).2 c160) (lv_sub (l' := [(1, .int r162), (2, .int r164)]) hl [1, 0] rfl) (by rw [qr164, qr163]; have z9 := bv_dec c160; omega)
  refine lv_iconst (v := 0) hx hb dX12_bits_0 (by decide) ?_
  refine lv_istore_n (lv' := [(1, .int 0), (0, .int x0)]) hx hb dX12_bits_1 rfl hl (by decide) rfl (fun ls hl => ?_)
  refine lv_iload_n hx hb dX12_bits_2 rfl (lv_at hl 1 rfl) ?_
  refine lv_istore_n (lv' := [(2, .int x0), (1, .int 0), (0, .int x0)]) hx hb dX12_bits_3 rfl hl (by decide) rfl (fun ls hl => ?_)
  exact lp4 4294967296 (0 : Int32) x0 ls (by exact fun z => ⟨rfl, z⟩) (lv_sub (l' := [(1, .int 0), (2, .int x0)]) hl [1, 0] rfl) (by have z9 := x0.toBitVec.isLt; omega)
theorem w_X12_first (l : Launch) (D : va_G) (cI cS : ClassId) (x0 : Int32) (px0 : Rg 1 4095 x0) : Met l yX12_first wsX12_first ({ frames := 1, cells := 0, slots := 0, locals := 40 }) (PS D cI cS [] [.int x0]) (vp_Si (fun r => Rg 0 11 r ∧ r = nI (lo x0.toNatClampNeg))) 0 0 (fun _ => False) := by
  obtain ⟨n, hn, rfl, e⟩ := rg_nat (Int.le_trans (by decide) px0.1)
  have h1 := px0.1
  have h2 := px0.2
  have h3 : lo n < 12 := (lo_of (by omega) (by omega)).1
  refine met_si (c_first l D cI cS n (by omega) (by omega)) (fun r hr => ⟨?_, by rw [hr, nI_cl (by omega)]⟩)
  subst hr
  have e3 : (nI (lo n)).toInt = (lo n : Int) := nI_toInt (by omega)
  exact ⟨by omega, by omega⟩
set_option maxHeartbeats 4000000 in
set_option maxRecDepth 100000 in
theorem w_X12_all (l : Launch) (D : va_G) (cI cS : ClassId) (b : Nat → Nat) (L v : SU) (hL : TyL L) (hV : TyV v) : Met l yX12_all wsX12_all ({ frames := 0, cells := 0, slots := 0, locals := 0 }) (PS D cI cS (wM cI b L v) [.ref (b 0)]) (vp_Si (fun r => Rg 0 4095 r ∧ (r = ((1 : Int32) <<< (L 0 0 &&& 31)) - 1))) 0 0 (fun _ => False) := by
  refine Met.ofW (cc := cX12_all) (maxL := 1) (ret := (some .int)) (by decide) rfl ?_
  intro p e s m args below meth c s₁ B hml hv
  obtain ⟨rfl, hP, hKK⟩ := hv
  have hx := B.exec
  have hb := B.bytes
  have hr := B.returns
  have hts := atoms_spec (ws := wsX12_all) B.pre
  have hown : s.vm.findClass RX12 = some m.cls := findClass_of_methodNamed B.named
  have hlocks := B.notSynchronized
  have hK := hKK.1
  have hin12 : ∀ w ∈ wsX120, w ∈ wsX12_all := by decide +kernel
  have hl := lv_entry ([.ref (b 0)]) (n := 1) (Nat.le_of_ble_eq_true rfl)
  rw [lg_entry_eq]
  generalize (lg_sl ([.ref (b 0)]) ++ List.replicate (1 - (lg_sl ([.ref (b 0)])).length) Slot.unset).toArray = ls at hl ⊢
  have hl : lv_has ls 1 [(0, .ref (b 0))] := hl
  refine lv_iconst (v := 1) hx hb dX12_all_0 (by decide) ?_
  refine lv_aload_n hx hb dX12_all_1 rfl (lv_at hl 0 rfl) ?_
  refine va_get (D := D) (ci := 12) (v := .int (L 0 0)) (C := RX12) (T := TX12) (N := 24) hx hb hts hin12 hown hK hP 0 rfl rfl 0 (by decide) (hts (.fieldLink RX12 63 "MissedPointsModel" "many" "I") (by decide +kernel)) (fun _ h9 => h9) rfl dX12_all_2 ?_
  refine wk_ishl1 (f := 4096) hx hb dX12_all_5 hL.1 (by decide) (fun r167 hr167 qr167 => ?_)
  refine lv_iconst (v := 1) hx hb dX12_all_6 (by decide) ?_
  refine wk_isub (e1 := 0) (f := 4095) hx hb dX12_all_7 hr167 (by decide : Rg 1 1 (1 : Int32)) (by decide) (fun r168 hr168 er168 qr168 => ?_)
  exact W.iret (v := r168) hx hb hr (fun t ht hW => ⟨_, rfl, ⟨hr168, (by rw [qr168, qr167])⟩, ht⟩) (fun q hq => absurd hq List.not_mem_nil) dX12_all_8
set_option maxHeartbeats 4000000 in
set_option maxRecDepth 100000 in
theorem w_X12_isPoint (l : Launch) (D : va_G) (cI cS : ClassId) (b : Nat → Nat) (L v : SU) (hL : TyL L) (hV : TyV v) (x0 : Int32) : Met l yX12_isPoint wsX12_isPoint ({ frames := 1, cells := 0, slots := 0, locals := 40 }) (PS D cI cS (wM cI b L v) [.ref (b 0), .int x0]) (vp_Si (fun r => Rg 0 1 r ∧ (r ≠ 0 → Rg 0 11 x0) ∧ (r = 0 → (x0.toInt < 0 ∨ (L 0 0).toInt - 1 < x0.toInt)))) 0 0 (fun _ => False) := by
  refine Met.ofW (cc := cX12_isPoint) (maxL := 2) (ret := (some .boolean)) (by decide) rfl ?_
  intro p e s m args below meth c s₁ B hml hv
  obtain ⟨rfl, hP, hKK⟩ := hv
  have hx := B.exec
  have hb := B.bytes
  have hr := B.returns
  have hts := atoms_spec (ws := wsX12_isPoint) B.pre
  have hown : s.vm.findClass RX12 = some m.cls := findClass_of_methodNamed B.named
  have hlocks := B.notSynchronized
  have hK := hKK.1
  have hin12 : ∀ w ∈ wsX120, w ∈ wsX12_isPoint := by decide +kernel
  have hl := lv_entry ([.ref (b 0), .int x0]) (n := 2) (Nat.le_of_ble_eq_true rfl)
  rw [lg_entry_eq]
  generalize (lg_sl ([.ref (b 0), .int x0]) ++ List.replicate (2 - (lg_sl ([.ref (b 0), .int x0])).length) Slot.unset).toArray = ls at hl ⊢
  have hl : lv_has ls 2 [(0, .ref (b 0)), (1, .int x0)] := hl
  refine lv_iload_n hx hb dX12_isPoint_0 rfl (lv_at hl 1 rfl) ?_
  refine lv_iconst (v := 0) hx hb dX12_isPoint_1 (by decide) ?_
  refine lv_aload_n hx hb dX12_isPoint_2 rfl (lv_at hl 0 rfl) ?_
  refine va_get (D := D) (ci := 12) (v := .int (L 0 0)) (C := RX12) (T := TX12) (N := 24) hx hb hts hin12 hown hK hP 0 rfl rfl 0 (by decide) (hts (.fieldLink RX12 63 "MissedPointsModel" "many" "I") (by decide +kernel)) (fun _ h9 => h9) rfl dX12_isPoint_3 ?_
  refine lv_iconst (v := 1) hx hb dX12_isPoint_6 (by decide) ?_
  refine wk_isub (e1 := (-1)) (f := 11) hx hb dX12_isPoint_7 hL.1 (by decide : Rg 1 1 (1 : Int32)) (by decide) (fun r173 hr173 er173 qr173 => ?_)
  refine lz_ss (As := [.int x0, .int 0, .int r173]) (rest := []) ⟨hx, hb, hml, hown, hts⟩ (w_X12_in l D cI cS x0 (0 : Int32) r173) hKK (hP.sub (ws' := []) [] rfl) (va_cwS 3 hts gX12_isPoint_X12_in rfl rfl rfl (by decide +kernel) ⟨Nat.le_of_ble_eq_true rfl, Nat.le_of_ble_eq_true rfl⟩) rfl hl.1 rfl (Nat.le_of_ble_eq_true rfl) dX12_isPoint_8 ⟨Nat.le_of_ble_eq_true rfl, Nat.le_of_ble_eq_true rfl⟩ (fun r174 hr174 => ?_)
  exact W.zret (v := r174) hx hb hr (wk_nb hr174.1) (fun t ht hW => ⟨_, rfl, ⟨hr174.1, fun h9 => (by have zn175 : (0 : Int32).toInt ≤ x0.toInt ∧ x0.toInt ≤ r173.toInt := (hr174.2.2 h9); have g176 : Rg 0 11 x0 := wk_in3 (rg_any x0) (by decide : Rg 0 0 (0 : Int32)) hr173 (hr174.2.2 h9) (by decide); exact g176), fun h9 => (by have zt177 : (x0.toInt < (0 : Int32).toInt ∨ r173.toInt < x0.toInt) := hr174.2.1 h9; have y90 : Rg 0 1 r174 := hr174.1; have y91 : Rg 0 1 r174 := hr174.1; have y9c2 : (0 : Int32).toInt = 0 := (by decide); have y9c3 : (1 : Int32).toInt = 1 := (by decide); skip; omega)⟩, ht⟩) (fun q hq => absurd hq List.not_mem_nil) dX12_isPoint_11
set_option maxHeartbeats 4000000 in
set_option maxRecDepth 100000 in
theorem w_X12_isSet (l : Launch) (D : va_G) (cI cS : ClassId) (b : Nat → Nat) (L v : SU) (hL : TyL L) (hV : TyV v) (x0 : Int32) : Met l yX12_isSet wsX12_isSet ({ frames := 1, cells := 0, slots := 0, locals := 40 }) (PS D cI cS (wM cI b L v) [.ref (b 0), .int x0]) (vp_Si (fun r => Rg 0 1 r ∧ (r ≠ 0 → Rg 0 4095 x0) ∧ (r ≠ 0 → x0.toInt ≤ (((1 : Int32) <<< (L 0 0 &&& 31)) - 1).toInt))) 0 0 (fun _ => False) := by
  refine Met.ofW (cc := cX12_isSet) (maxL := 2) (ret := (some .boolean)) (by decide) rfl ?_
  intro p e s m args below meth c s₁ B hml hv
  obtain ⟨rfl, hP, hKK⟩ := hv
  have hx := B.exec
  have hb := B.bytes
  have hr := B.returns
  have hts := atoms_spec (ws := wsX12_isSet) B.pre
  have hown : s.vm.findClass RX12 = some m.cls := findClass_of_methodNamed B.named
  have hlocks := B.notSynchronized
  have hK := hKK.1
  have hl := lv_entry ([.ref (b 0), .int x0]) (n := 2) (Nat.le_of_ble_eq_true rfl)
  rw [lg_entry_eq]
  generalize (lg_sl ([.ref (b 0), .int x0]) ++ List.replicate (2 - (lg_sl ([.ref (b 0), .int x0])).length) Slot.unset).toArray = ls at hl ⊢
  have hl : lv_has ls 2 [(0, .ref (b 0)), (1, .int x0)] := hl
  refine lv_iload_n hx hb dX12_isSet_0 rfl (lv_at hl 1 rfl) ?_
  refine lv_aload_n hx hb dX12_isSet_1 rfl (lv_at hl 0 rfl) ?_
  refine wk_sv 0 (As := []) (rest := [.int x0]) ⟨hx, hb, hml, hown, hts⟩ (w_X12_all l D cI cS b L v hL hV) hKK hP (ci := 12) rfl rfl (cwV 0 hts gX12_isSet_X12_all rfl rfl rfl (by decide +kernel) ⟨Nat.le_of_ble_eq_true rfl, Nat.le_of_ble_eq_true rfl⟩) rfl hl.1 rfl (Nat.le_of_ble_eq_true rfl) dX12_isSet_2 ⟨Nat.le_of_ble_eq_true rfl, Nat.le_of_ble_eq_true rfl⟩ (fun r184 hr184 => ?_)
  refine lv_iconst (v := (-1)) hx hb dX12_isSet_5 (by decide) ?_
  refine lv_ixor hx hb dX12_isSet_6 ?_
  refine wk_topP (P := fun r => r = r184 ^^^ ((-1) : Int32)) rfl (fun r185 qr185 => ?_)
  refine lv_iand hx hb dX12_isSet_7 ?_
  refine wk_topP (P := fun r => r = x0 &&& r185) rfl (fun r186 qr186 => ?_)
  refine lv_if_ne (tgt := 15) hx hb dX12_isSet_8 (by decide) (fun c187 => ?_) (fun c187 => ?_)
  · refine lv_iconst (v := 0) hx hb dX12_isSet_15 (by decide) ?_
    exact W.zret (v := 0) hx hb hr (by decide) (fun t ht hW => ⟨_, rfl, ⟨(by decide : Rg 0 1 (0 : Int32)), fun h9 => absurd rfl h9, fun h9 => absurd rfl h9⟩, ht⟩) (fun q hq => absurd hq List.not_mem_nil) dX12_isSet_16
  · have g188 : Rg 0 4095 x0 := wk_set hr184.1 (by decide) (by rw [← qr185, ← qr186]; exact c187)
    have g189 : Rg 0 0 r186 := wk_eql (rg_any r186) (by decide : Rg 0 0 (0 : Int32)) c187 (by decide)
    refine lv_iconst (v := 1) hx hb dX12_isSet_11 (by decide) ?_
    refine lv_goto (tgt := 16) hx hb dX12_isSet_12 (by decide) ?_
    exact W.zret (v := 1) hx hb hr (by decide) (fun t ht hW => ⟨_, rfl, ⟨(by decide : Rg 0 1 (1 : Int32)), fun _ => g188, fun _ => (by have z9 := wk_set (d := r184.toInt) ⟨hr184.1.1, Int.le_refl _⟩ (by decide) (by rw [← qr185, ← qr186]; exact c187); rw [← hr184.2]; exact z9.2)⟩, ht⟩) (fun q hq => absurd hq List.not_mem_nil) dX12_isSet_16
theorem dX12_areTwo_10 : decode cX12_areTwo 10 = .ok (.invokevirtual 74, 3) := by decide +kernel
theorem dX12_areTwo_13 : decode cX12_areTwo 13 = .ok (.ifCond .eq 12, 3) := by decide +kernel
theorem dX12_areTwo_16 : decode cX12_areTwo 16 = .ok (.iload_n 1, 1) := by decide +kernel
theorem dX12_areTwo_17 : decode cX12_areTwo 17 = .ok (.iload_n 2, 1) := by decide +kernel
theorem dX12_areTwo_18 : decode cX12_areTwo 18 = .ok (.if_icmp .eq 7, 3) := by decide +kernel
theorem dX12_areTwo_21 : decode cX12_areTwo 21 = .ok (.iconst 1, 1) := by decide +kernel
theorem dX12_areTwo_22 : decode cX12_areTwo 22 = .ok (.goto 4, 3) := by decide +kernel
theorem dX12_areTwo_8 : decode cX12_areTwo 8 = .ok (.aload_n 0, 1) := by decide +kernel
theorem dX12_areTwo_9 : decode cX12_areTwo 9 = .ok (.iload_n 2, 1) := by decide +kernel
set_option maxHeartbeats 4000000 in
set_option maxRecDepth 100000 in
theorem w_X12_areTwo (l : Launch) (D : va_G) (cI cS : ClassId) (b : Nat → Nat) (L v : SU) (hL : TyL L) (hV : TyV v) (x0 x1 : Int32) : Met l yX12_areTwo wsX12_areTwo ({ frames := 2, cells := 0, slots := 0, locals := 80 }) (PS D cI cS (wM cI b L v) [.ref (b 0), .int x0, .int x1]) (vp_Si (fun r => Rg 0 1 r ∧ (r ≠ 0 → Rg 0 11 x0 ∧ Rg 0 11 x1))) 0 0 (fun _ => False) := by
  refine Met.ofW (cc := cX12_areTwo) (maxL := 3) (ret := (some .boolean)) (by decide) rfl ?_
  intro p e s m args below meth c s₁ B hml hv
  obtain ⟨rfl, hP, hKK⟩ := hv
  have hx := B.exec
  have hb := B.bytes
  have hr := B.returns
  have hts := atoms_spec (ws := wsX12_areTwo) B.pre
  have hown : s.vm.findClass RX12 = some m.cls := findClass_of_methodNamed B.named
  have hlocks := B.notSynchronized
  have hK := hKK.1
  have hl := lv_entry ([.ref (b 0), .int x0, .int x1]) (n := 3) (Nat.le_of_ble_eq_true rfl)
  rw [lg_entry_eq]
  generalize (lg_sl ([.ref (b 0), .int x0, .int x1]) ++ List.replicate (3 - (lg_sl ([.ref (b 0), .int x0, .int x1])).length) Slot.unset).toArray = ls at hl ⊢
  have hl : lv_has ls 3 [(0, .ref (b 0)), (1, .int x0), (2, .int x1)] := hl
  refine lv_aload_n hx hb dX12_areTwo_0 rfl (lv_at hl 0 rfl) ?_
  refine lv_iload_n hx hb dX12_areTwo_1 rfl (lv_at hl 1 rfl) ?_
  refine wk_sv 0 (As := [.int x0]) (rest := []) ⟨hx, hb, hml, hown, hts⟩ (w_X12_isPoint l D cI cS b L v hL hV x0) hKK hP (ci := 12) rfl rfl (cwV 1 hts gX12_areTwo_X12_isPoint rfl rfl rfl (by decide +kernel) ⟨Nat.le_of_ble_eq_true rfl, Nat.le_of_ble_eq_true rfl⟩) rfl hl.1 rfl (Nat.le_of_ble_eq_true rfl) dX12_areTwo_2 ⟨Nat.le_of_ble_eq_true rfl, Nat.le_of_ble_eq_true rfl⟩ (fun r203 hr203 => ?_)
  refine lv_if_eq (tgt := 25) hx hb dX12_areTwo_5 (by decide) (fun c204 => ?_) (fun c204 => ?_)
  · have zt205 : (x0.toInt < 0 ∨ (L 0 0).toInt - 1 < x0.toInt) := hr203.2.2 c204
    have g206 : Rg 0 0 r203 := wk_eql hr203.1 (by decide : Rg 0 0 (0 : Int32)) c204 (by decide)
    refine lv_iconst (v := 0) hx hb dX12_areTwo_25 (by decide) ?_
    exact W.zret (v := 0) hx hb hr (by decide) (fun t ht hW => ⟨_, rfl, ⟨(by decide : Rg 0 1 (0 : Int32)), fun h9 => absurd rfl h9⟩, ht⟩) (fun q hq => absurd hq List.not_mem_nil) dX12_areTwo_26
  · have g207 : Rg 0 11 x0 := (hr203.2.1 c204)
    have g208 : Rg 1 1 r203 := rg_ne_lo (k := 0) hr203.1 (by decide) c204 (by decide)
    refine lv_aload_n hx hb dX12_areTwo_8 rfl (lv_at hl 0 rfl) ?_
    refine lv_iload_n hx hb dX12_areTwo_9 rfl (lv_at hl 2 rfl) ?_
    refine wk_sv 0 (As := [.int x1]) (rest := []) ⟨hx, hb, hml, hown, hts⟩ (w_X12_isPoint l D cI cS b L v hL hV x1) hKK hP (ci := 12) rfl rfl (cwV 1 hts gX12_areTwo_X12_isPoint rfl rfl rfl (by decide +kernel) ⟨Nat.le_of_ble_eq_true rfl, Nat.le_of_ble_eq_true rfl⟩) rfl hl.1 rfl (Nat.le_of_ble_eq_true rfl) dX12_areTwo_10 ⟨Nat.le_of_ble_eq_true rfl, Nat.le_of_ble_eq_true rfl⟩ (fun r209 hr209 => ?_)
    refine lv_if_eq (tgt := 25) hx hb dX12_areTwo_13 (by decide) (fun c210 => ?_) (fun c210 => ?_)
    · have zt211 : (x1.toInt < 0 ∨ (L 0 0).toInt - 1 < x1.toInt) := hr209.2.2 c210
      have g212 : Rg 0 0 r209 := wk_eql hr209.1 (by decide : Rg 0 0 (0 : Int32)) c210 (by decide)
      refine lv_iconst (v := 0) hx hb dX12_areTwo_25 (by decide) ?_
      exact W.zret (v := 0) hx hb hr (by decide) (fun t ht hW => ⟨_, rfl, ⟨(by decide : Rg 0 1 (0 : Int32)), fun h9 => absurd rfl h9⟩, ht⟩) (fun q hq => absurd hq List.not_mem_nil) dX12_areTwo_26
    · have g213 : Rg 0 11 x1 := (hr209.2.1 c210)
      have g214 : Rg 1 1 r209 := rg_ne_lo (k := 0) hr209.1 (by decide) c210 (by decide)
      refine lv_iload_n hx hb dX12_areTwo_16 rfl (lv_at hl 1 rfl) ?_
      refine lv_iload_n hx hb dX12_areTwo_17 rfl (lv_at hl 2 rfl) ?_
      refine lv_icmp_eq (tgt := 25) hx hb dX12_areTwo_18 (by decide) (fun c215 => ?_) (fun c215 => ?_)
      · refine lv_iconst (v := 0) hx hb dX12_areTwo_25 (by decide) ?_
        exact W.zret (v := 0) hx hb hr (by decide) (fun t ht hW => ⟨_, rfl, ⟨(by decide : Rg 0 1 (0 : Int32)), fun h9 => absurd rfl h9⟩, ht⟩) (fun q hq => absurd hq List.not_mem_nil) dX12_areTwo_26
      · refine lv_iconst (v := 1) hx hb dX12_areTwo_21 (by decide) ?_
        refine lv_goto (tgt := 26) hx hb dX12_areTwo_22 (by decide) ?_
        exact W.zret (v := 1) hx hb hr (by decide) (fun t ht hW => ⟨_, rfl, ⟨(by decide : Rg 0 1 (1 : Int32)), fun _ => ⟨g207, g213⟩⟩, ht⟩) (fun q hq => absurd hq List.not_mem_nil) dX12_areTwo_26
set_option maxHeartbeats 4000000 in
set_option maxRecDepth 100000 in
theorem w_X12_isSheet (l : Launch) (D : va_G) (cI cS : ClassId) (x0 : Int32) : Met l yX12_isSheet wsX12_isSheet ({ frames := 1, cells := 0, slots := 0, locals := 40 }) (PS D cI cS [] [.int x0]) (vp_Si (fun r => Rg 0 1 r ∧ (r ≠ 0 → Rg 0 3 x0) ∧ (r = 0 → (x0.toInt < 0 ∨ 3 < x0.toInt)))) 0 0 (fun _ => False) := by
  refine Met.ofW (cc := cX12_isSheet) (maxL := 1) (ret := (some .boolean)) (by decide) rfl ?_
  intro p e s m args below meth c s₁ B hml hv
  obtain ⟨rfl, hP, hKK⟩ := hv
  have hx := B.exec
  have hb := B.bytes
  have hr := B.returns
  have hts := atoms_spec (ws := wsX12_isSheet) B.pre
  have hown : s.vm.findClass RX12 = some m.cls := findClass_of_methodNamed B.named
  have hlocks := B.notSynchronized
  have hK := hKK.1
  have hl := lv_entry ([.int x0]) (n := 1) (Nat.le_of_ble_eq_true rfl)
  rw [lg_entry_eq]
  generalize (lg_sl ([.int x0]) ++ List.replicate (1 - (lg_sl ([.int x0])).length) Slot.unset).toArray = ls at hl ⊢
  have hl : lv_has ls 1 [(0, .int x0)] := hl
  refine lv_iload_n hx hb dX12_isSheet_0 rfl (lv_at hl 0 rfl) ?_
  refine lv_iconst (v := 0) hx hb dX12_isSheet_1 (by decide) ?_
  refine lv_iconst (v := 3) hx hb dX12_isSheet_2 (by decide) ?_
  refine lz_ss (As := [.int x0, .int 0, .int 3]) (rest := []) ⟨hx, hb, hml, hown, hts⟩ (w_X12_in l D cI cS x0 (0 : Int32) (3 : Int32)) hKK (hP.sub (ws' := []) [] rfl) (va_cwS 3 hts gX12_isSheet_X12_in rfl rfl rfl (by decide +kernel) ⟨Nat.le_of_ble_eq_true rfl, Nat.le_of_ble_eq_true rfl⟩) rfl hl.1 rfl (Nat.le_of_ble_eq_true rfl) dX12_isSheet_3 ⟨Nat.le_of_ble_eq_true rfl, Nat.le_of_ble_eq_true rfl⟩ (fun r219 hr219 => ?_)
  exact W.zret (v := r219) hx hb hr (wk_nb hr219.1) (fun t ht hW => ⟨_, rfl, ⟨hr219.1, fun h9 => (by have zn220 : (0 : Int32).toInt ≤ x0.toInt ∧ x0.toInt ≤ (3 : Int32).toInt := (hr219.2.2 h9); have g221 : Rg 0 3 x0 := wk_in3 (rg_any x0) (by decide : Rg 0 0 (0 : Int32)) (by decide : Rg 3 3 (3 : Int32)) (hr219.2.2 h9) (by decide); exact g221), fun h9 => (by have zt222 : (x0.toInt < (0 : Int32).toInt ∨ (3 : Int32).toInt < x0.toInt) := hr219.2.1 h9; have y90 : Rg 0 1 r219 := hr219.1; have y91 : Rg 0 1 r219 := hr219.1; have y9c2 : (0 : Int32).toInt = 0 := (by decide); have y9c3 : (1 : Int32).toInt = 1 := (by decide); have y9c4 : (3 : Int32).toInt = 3 := (by decide); skip; omega)⟩, ht⟩) (fun q hq => absurd hq List.not_mem_nil) dX12_isSheet_6
set_option maxHeartbeats 4000000 in
set_option maxRecDepth 100000 in
theorem w_X12_isShelf (l : Launch) (D : va_G) (cI cS : ClassId) (x0 : Int32) : Met l yX12_isShelf wsX12_isShelf ({ frames := 1, cells := 0, slots := 0, locals := 40 }) (PS D cI cS [] [.int x0]) (vp_Si (fun r => Rg 0 1 r ∧ (r ≠ 0 → Rg 0 3 x0))) 0 0 (fun _ => False) := by
  refine Met.ofW (cc := cX12_isShelf) (maxL := 1) (ret := (some .boolean)) (by decide) rfl ?_
  intro p e s m args below meth c s₁ B hml hv
  obtain ⟨rfl, hP, hKK⟩ := hv
  have hx := B.exec
  have hb := B.bytes
  have hr := B.returns
  have hts := atoms_spec (ws := wsX12_isShelf) B.pre
  have hown : s.vm.findClass RX12 = some m.cls := findClass_of_methodNamed B.named
  have hlocks := B.notSynchronized
  have hK := hKK.1
  have hl := lv_entry ([.int x0]) (n := 1) (Nat.le_of_ble_eq_true rfl)
  rw [lg_entry_eq]
  generalize (lg_sl ([.int x0]) ++ List.replicate (1 - (lg_sl ([.int x0])).length) Slot.unset).toArray = ls at hl ⊢
  have hl : lv_has ls 1 [(0, .int x0)] := hl
  refine lv_iload_n hx hb dX12_isShelf_0 rfl (lv_at hl 0 rfl) ?_
  refine lv_iconst (v := 0) hx hb dX12_isShelf_1 (by decide) ?_
  refine lv_iconst (v := 3) hx hb dX12_isShelf_2 (by decide) ?_
  refine lz_ss (As := [.int x0, .int 0, .int 3]) (rest := []) ⟨hx, hb, hml, hown, hts⟩ (w_X12_in l D cI cS x0 (0 : Int32) (3 : Int32)) hKK (hP.sub (ws' := []) [] rfl) (va_cwS 3 hts gX12_isShelf_X12_in rfl rfl rfl (by decide +kernel) ⟨Nat.le_of_ble_eq_true rfl, Nat.le_of_ble_eq_true rfl⟩) rfl hl.1 rfl (Nat.le_of_ble_eq_true rfl) dX12_isShelf_3 ⟨Nat.le_of_ble_eq_true rfl, Nat.le_of_ble_eq_true rfl⟩ (fun r226 hr226 => ?_)
  exact W.zret (v := r226) hx hb hr (wk_nb hr226.1) (fun t ht hW => ⟨_, rfl, ⟨hr226.1, fun h9 => (by have zn227 : (0 : Int32).toInt ≤ x0.toInt ∧ x0.toInt ≤ (3 : Int32).toInt := (hr226.2.2 h9); have g228 : Rg 0 3 x0 := wk_in3 (rg_any x0) (by decide : Rg 0 0 (0 : Int32)) (by decide : Rg 3 3 (3 : Int32)) (hr226.2.2 h9) (by decide); exact g228)⟩, ht⟩) (fun q hq => absurd hq List.not_mem_nil) dX12_isShelf_6
set_option maxHeartbeats 4000000 in
set_option maxRecDepth 100000 in
theorem w_X12_lines (l : Launch) (D : va_G) (cI cS : ClassId) (b : Nat → Nat) (L v : SU) (hL : TyL L) (hV : TyV v) : Met l yX12_lines wsX12_lines ({ frames := 1, cells := 0, slots := 0, locals := 40 }) (PS D cI cS (wM cI b L v) [.ref (b 0)]) (vp_Si (fun r => Rg (-2147483648) 2147483647 r ∧ True)) 0 0 (fun _ => False) := by
  refine Met.ofW (cc := cX12_lines) (maxL := 3) (ret := (some .int)) (by decide) rfl ?_
  intro p e s m args below meth c s₁ B hml hv
  obtain ⟨rfl, hP, hKK⟩ := hv
  have hx := B.exec
  have hb := B.bytes
  have hr := B.returns
  have hts := atoms_spec (ws := wsX12_lines) B.pre
  have hown : s.vm.findClass RX12 = some m.cls := findClass_of_methodNamed B.named
  have hlocks := B.notSynchronized
  have hK := hKK.1
  have hin12 : ∀ w ∈ wsX120, w ∈ wsX12_lines := by decide +kernel
  have hl := lv_entry ([.ref (b 0)]) (n := 3) (Nat.le_of_ble_eq_true rfl)
  rw [lg_entry_eq]
  generalize (lg_sl ([.ref (b 0)]) ++ List.replicate (3 - (lg_sl ([.ref (b 0)])).length) Slot.unset).toArray = ls at hl ⊢
  have hl : lv_has ls 3 [(0, .ref (b 0))] := hl
  have lp4 : ∀ (n4 : Nat) (y4_l1 : Int32) (y4_l2 : Int32) (ls : Array Slot), Rg 0 12 y4_l2 → lv_has ls 3 [(0, .ref (b 0)), (1, .int y4_l1), (2, .int y4_l2)] → 12 - y4_l2.toInt < (n4 : Int) → W p l e (headSpec wsX12_lines ({ frames := 1, cells := 0, slots := 0, locals := 40 })).room s m ([.ref (b 0)]).toArray below meth c s.heap [] 0 0 (MQ below (vp_Si (fun r => Rg (-2147483648) 2147483647 r ∧ True)) ([.ref (b 0)]).toArray s 0 0 (fun _ => False)) (F0 m 4 ls []) := by
    intro n4
    induction n4 with
    | zero =>
      intro y4_l1 y4_l2 ls g4_l2 hl hm4
      exact absurd rfl (me_z g4_l2 hm4)
    | succ n4 ih4 =>
      intro y4_l1 y4_l2 ls g4_l2 hl hm4
      refine lv_iload_n hx hb dX12_lines_4 rfl (lv_at hl 2 rfl) ?_
      refine lv_aload_n hx hb dX12_lines_5 rfl (lv_at hl 0 rfl) ?_
      refine va_get (D := D) (ci := 12) (v := .int (L 0 0)) (C := RX12) (T := TX12) (N := 24) hx hb hts hin12 hown hK hP 0 rfl rfl 0 (by decide) (hts (.fieldLink RX12 63 "MissedPointsModel" "many" "I") (by decide +kernel)) (fun _ h9 => h9) rfl dX12_lines_6 ?_
      refine lv_icmp_ge (tgt := 30) hx hb dX12_lines_9 (by decide) (fun c309 => ?_) (fun c309 => ?_)
      · refine lv_iload_n hx hb dX12_lines_30 rfl (lv_at hl 1 rfl) ?_
        refine lv_iconst (v := 2) hx hb dX12_lines_31 (by decide) ?_
        refine lv_idiv hx hb dX12_lines_32 (by decide) ?_
        refine wk_any (fun r310 => ?_)
        exact W.iret (v := r310) hx hb hr (fun t ht hW => ⟨_, rfl, ⟨(rg_any r310), trivial⟩, ht⟩) (fun q hq => absurd hq List.not_mem_nil) dX12_lines_33
      · have g311 : Rg 1 12 (L 0 0) := rg_ltr g4_l2 hL.1 (rg_nle c309) (by decide)
        have g312 : Rg 0 11 y4_l2 := rg_ltl g4_l2 hL.1 (rg_nle c309) (by decide)
        refine lv_iload_n hx hb dX12_lines_12 rfl (lv_at hl 1 rfl) ?_
        refine lv_aload_n hx hb dX12_lines_13 rfl (lv_at hl 0 rfl) ?_
        refine va_get (D := D) (ci := 12) (v := .ref (b 1)) (C := RX12) (T := TX12) (N := 24) hx hb hts hin12 hown hK hP 0 rfl rfl 2 (by decide) (hts (.fieldLink RX12 13 "MissedPointsModel" "near" "[I") (by decide +kernel)) (fun _ h9 => h9) rfl dX12_lines_14 ?_
        refine lv_iload_n hx hb dX12_lines_17 rfl (lv_at hl 2 rfl) ?_
        refine wk_ald hx hb hK hP 1 0 rfl rfl (rg_in g312 (by decide) (by decide)) dX12_lines_18 hV.1 (fun r313 hr313 => ?_)
        refine lz_ss (As := [.int r313]) (rest := [.int y4_l1]) ⟨hx, hb, hml, hown, hts⟩ (w_X12_bits l D cI cS r313) hKK (hP.sub (ws' := []) [] rfl) (va_cwS 1 hts gX12_lines_X12_bits rfl rfl rfl (by decide +kernel) ⟨Nat.le_of_ble_eq_true rfl, Nat.le_of_ble_eq_true rfl⟩) rfl hl.1 rfl (Nat.le_of_ble_eq_true rfl) dX12_lines_19 ⟨Nat.le_of_ble_eq_true rfl, Nat.le_of_ble_eq_true rfl⟩ (fun r314 hr314 => ?_)
        refine lv_iadd hx hb dX12_lines_22 ?_
        refine wk_topP (P := fun r => r = y4_l1 + r314) rfl (fun r315 qr315 => ?_)
        refine lv_istore_n (lv' := [(1, .int r315), (0, .ref (b 0)), (2, .int y4_l2)]) hx hb dX12_lines_23 rfl hl (by decide) rfl (fun ls hl => ?_)
        refine wk_iinc (lv' := fun r => [(2, .int r), (1, .int r315), (0, .ref (b 0))]) (e1 := 1) (f := 12) hx hb dX12_lines_24 hl (k := 2) rfl (by decide) g312 (by decide) (fun _ => rfl) (fun r316 ls hr316 er316 hl => ?_)
        refine lv_goto (tgt := 4) hx hb dX12_lines_27 (by decide) ?_
        exact ih4 r315 r316 ls (show Rg 0 12 r316 from rg_w hr316 (by decide) (by decide)) (lv_sub (l' := [(0, .ref (b 0)), (1, .int r315), (2, .int r316)]) hl [2, 1, 0] rfl) (me_up hm4 er316 (by decide))
  refine lv_iconst (v := 0) hx hb dX12_lines_0 (by decide) ?_
  refine lv_istore_n (lv' := [(1, .int 0), (0, .ref (b 0))]) hx hb dX12_lines_1 rfl hl (by decide) rfl (fun ls hl => ?_)
  refine lv_iconst (v := 0) hx hb dX12_lines_2 (by decide) ?_
  refine lv_istore_n (lv' := [(2, .int 0), (1, .int 0), (0, .ref (b 0))]) hx hb dX12_lines_3 rfl hl (by decide) rfl (fun ls hl => ?_)
  exact lp4 13 (0 : Int32) (0 : Int32) ls (by decide : Rg 0 12 (0 : Int32)) (lv_sub (l' := [(0, .ref (b 0)), (1, .int 0), (2, .int 0)]) hl [2, 1, 0] rfl) (me_i (by decide : Rg 0 12 (0 : Int32)) (by decide))
theorem dX12_next_12 : decode cX12_next 12 = .ok (.iload_n 1, 1) := by decide +kernel
theorem dX12_next_13 : decode cX12_next 13 = .ok (.iaload, 1) := by decide +kernel
theorem dX12_next_14 : decode cX12_next 14 = .ok (.goto 5, 3) := by decide +kernel
theorem dX12_next_8 : decode cX12_next 8 = .ok (.aload_n 0, 1) := by decide +kernel
theorem dX12_next_9 : decode cX12_next 9 = .ok (.getfield 13, 3) := by decide +kernel
set_option maxHeartbeats 4000000 in
set_option maxRecDepth 100000 in
theorem w_X12_next (l : Launch) (D : va_G) (cI cS : ClassId) (b : Nat → Nat) (L v : SU) (hL : TyL L) (hV : TyV v) (x0 : Int32) : Met l yX12_next wsX12_next ({ frames := 2, cells := 0, slots := 0, locals := 80 }) (PS D cI cS (wM cI b L v) [.ref (b 0), .int x0]) (vp_Si (fun r => Rg (-2) 4095 r ∧ True)) 0 0 (fun _ => False) := by
  refine Met.ofW (cc := cX12_next) (maxL := 2) (ret := (some .int)) (by decide) rfl ?_
  intro p e s m args below meth c s₁ B hml hv
  obtain ⟨rfl, hP, hKK⟩ := hv
  have hx := B.exec
  have hb := B.bytes
  have hr := B.returns
  have hts := atoms_spec (ws := wsX12_next) B.pre
  have hown : s.vm.findClass RX12 = some m.cls := findClass_of_methodNamed B.named
  have hlocks := B.notSynchronized
  have hK := hKK.1
  have hin12 : ∀ w ∈ wsX120, w ∈ wsX12_next := by decide +kernel
  have hl := lv_entry ([.ref (b 0), .int x0]) (n := 2) (Nat.le_of_ble_eq_true rfl)
  rw [lg_entry_eq]
  generalize (lg_sl ([.ref (b 0), .int x0]) ++ List.replicate (2 - (lg_sl ([.ref (b 0), .int x0])).length) Slot.unset).toArray = ls at hl ⊢
  have hl : lv_has ls 2 [(0, .ref (b 0)), (1, .int x0)] := hl
  refine lv_aload_n hx hb dX12_next_0 rfl (lv_at hl 0 rfl) ?_
  refine lv_iload_n hx hb dX12_next_1 rfl (lv_at hl 1 rfl) ?_
  refine wk_sv 0 (As := [.int x0]) (rest := []) ⟨hx, hb, hml, hown, hts⟩ (w_X12_isPoint l D cI cS b L v hL hV x0) hKK hP (ci := 12) rfl rfl (cwV 1 hts gX12_next_X12_isPoint rfl rfl rfl (by decide +kernel) ⟨Nat.le_of_ble_eq_true rfl, Nat.le_of_ble_eq_true rfl⟩) rfl hl.1 rfl (Nat.le_of_ble_eq_true rfl) dX12_next_2 ⟨Nat.le_of_ble_eq_true rfl, Nat.le_of_ble_eq_true rfl⟩ (fun r324 hr324 => ?_)
  refine lv_if_eq (tgt := 17) hx hb dX12_next_5 (by decide) (fun c325 => ?_) (fun c325 => ?_)
  · have zt326 : (x0.toInt < 0 ∨ (L 0 0).toInt - 1 < x0.toInt) := hr324.2.2 c325
    have g327 : Rg 0 0 r324 := wk_eql hr324.1 (by decide : Rg 0 0 (0 : Int32)) c325 (by decide)
    refine lv_bipush (v := (-2)) hx hb dX12_next_17 (by decide) ?_
    exact W.iret (v := (-2)) hx hb hr (fun t ht hW => ⟨_, rfl, ⟨(by decide : Rg (-2) 4095 ((-2) : Int32)), trivial⟩, ht⟩) (fun q hq => absurd hq List.not_mem_nil) dX12_next_19
  · have g328 : Rg 0 11 x0 := (hr324.2.1 c325)
    have g329 : Rg 1 1 r324 := rg_ne_lo (k := 0) hr324.1 (by decide) c325 (by decide)
    refine lv_aload_n hx hb dX12_next_8 rfl (lv_at hl 0 rfl) ?_
    refine va_get (D := D) (ci := 12) (v := .ref (b 1)) (C := RX12) (T := TX12) (N := 24) hx hb hts hin12 hown hK hP 0 rfl rfl 2 (by decide) (hts (.fieldLink RX12 13 "MissedPointsModel" "near" "[I") (by decide +kernel)) (fun _ h9 => h9) rfl dX12_next_9 ?_
    refine lv_iload_n hx hb dX12_next_12 rfl (lv_at hl 1 rfl) ?_
    refine wk_ald hx hb hK hP 1 0 rfl rfl (rg_in g328 (by decide) (by decide)) dX12_next_13 hV.1 (fun r330 hr330 => ?_)
    refine lv_goto (tgt := 19) hx hb dX12_next_14 (by decide) ?_
    exact W.iret (v := r330) hx hb hr (fun t ht hW => ⟨_, rfl, ⟨(show Rg (-2) 4095 r330 from rg_w hr330 (by decide) (by decide)), trivial⟩, ht⟩) (fun q hq => absurd hq List.not_mem_nil) dX12_next_19
set_option maxHeartbeats 4000000 in
set_option maxRecDepth 100000 in
theorem w_X12_lays (l : Launch) (D : va_G) (cI cS : ClassId) (sz : Nat) (b : Nat → Nat) (L v0 : SU) (hL : TyL L) (hV : TyV v0) (x0 x1 x2 : Int32) (px0 : Rg 0 11 x0) (px1 : Rg 0 11 x1) (px2 : Rg 0 1 x2) : Met l yX12_lays wsX12_lays ({ frames := 0, cells := 0, slots := 0, locals := 0 }) (PQ D cI cS (wM cI b L v0) sz [.ref (b 0), .int x0, .int x1, .int x2]) (QE (S := SU) D (wM cI b L v0) (wM cI b L) sz (fun u => TyV u ∧ True)) 0 0 (va_A (wM cI b L v0) sz) := by
  refine Met.ofW (cc := cX12_lays) (maxL := 4) (ret := none) (by decide) rfl ?_
  intro p e s m args below meth c s₁ B hml hv
  obtain ⟨rfl, hsz, hP, hKK, hD0⟩ := hv
  have hx := B.exec
  have hb := B.bytes
  have hr := B.returns
  have hts := atoms_spec (ws := wsX12_lays) B.pre
  have hown : s.vm.findClass RX12 = some m.cls := findClass_of_methodNamed B.named
  have hlocks := B.notSynchronized
  have hK := hKK.1
  have hin12 : ∀ w ∈ wsX120, w ∈ wsX12_lays := by decide +kernel
  subst hsz
  have hD := hD0.self (sz := s.heap.size)
  obtain ⟨A, hAe⟩ : ∃ A, A = va_A (wM cI b L v0) s.heap.size := ⟨_, rfl⟩
  rw [← hAe] at hD
  have hA : ∀ q : Nat, s.heap.size ≤ q → A q := fun q h => by rw [hAe]; exact Or.inr h
  have hS : va_S A s.heap s.heap [] := va_S.rf
  have hl := lv_entry ([.ref (b 0), .int x0, .int x1, .int x2]) (n := 4) (Nat.le_of_ble_eq_true rfl)
  rw [lg_entry_eq]
  generalize (lg_sl ([.ref (b 0), .int x0, .int x1, .int x2]) ++ List.replicate (4 - (lg_sl ([.ref (b 0), .int x0, .int x1, .int x2])).length) Slot.unset).toArray = ls at hl ⊢
  have hl : lv_has ls 4 [(0, .ref (b 0)), (1, .int x0), (2, .int x1), (3, .int x2)] := hl
  obtain ⟨v, hv9⟩ : ∃ v : SU, v = v0 := ⟨_, rfl⟩
  rw [← hv9] at hP hD hV
  refine lv_aload_n hx hb dX12_lays_0 rfl (lv_at hl 0 rfl) ?_
  refine va_get (D := D) (ci := 12) (v := .ref (b 1)) (C := RX12) (T := TX12) (N := 24) hx hb hts hin12 hown hK hP 0 rfl rfl 2 (by decide) (hts (.fieldLink RX12 13 "MissedPointsModel" "near" "[I") (by decide +kernel)) (fun _ h9 => h9) rfl dX12_lays_1 ?_
  refine lv_iload_n hx hb dX12_lays_4 rfl (lv_at hl 1 rfl) ?_
  refine lv_aload_n hx hb dX12_lays_5 rfl (lv_at hl 0 rfl) ?_
  refine va_get (D := D) (ci := 12) (v := .ref (b 1)) (C := RX12) (T := TX12) (N := 24) hx hb hts hin12 hown hK hP 0 rfl rfl 2 (by decide) (hts (.fieldLink RX12 13 "MissedPointsModel" "near" "[I") (by decide +kernel)) (fun _ h9 => h9) rfl dX12_lays_6 ?_
  refine lv_iload_n hx hb dX12_lays_9 rfl (lv_at hl 1 rfl) ?_
  refine wk_ald hx hb hK hP 1 0 rfl rfl (rg_in px0 (by decide) (by decide)) dX12_lays_10 hV.1 (fun r345 hr345 => ?_)
  refine lv_iconst (v := 1) hx hb dX12_lays_11 (by decide) ?_
  refine lv_iload_n hx hb dX12_lays_12 rfl (lv_at hl 2 rfl) ?_
  refine wk_ishl1 (f := 2048) hx hb dX12_lays_13 px1 (by decide) (fun r346 hr346 qr346 => ?_)
  refine lv_iconst (v := (-1)) hx hb dX12_lays_14 (by decide) ?_
  refine lv_ixor hx hb dX12_lays_15 ?_
  refine wk_topP (P := fun r => r = r346 ^^^ ((-1) : Int32)) rfl (fun r347 qr347 => ?_)
  refine wk_iandl hx hb dX12_lays_16 hr345 (by decide) (fun r348 hr348 qr348 => ?_)
  refine lv_iload_n hx hb dX12_lays_17 rfl (lv_at hl 3 rfl) ?_
  refine lv_iload_n hx hb dX12_lays_18 rfl (lv_at hl 2 rfl) ?_
  refine wk_ishl (f := 2048) hx hb dX12_lays_19 px2 px1 (by decide) (fun r349 hr349 => ?_)
  refine wk_ior 12 (e1 := 0) (f := 4095) hx hb dX12_lays_20 hr348 hr349 (by decide) (fun r350 hr350 qr350 => ?_)
  refine ms_1 hx hb hK hP hD hS hV rfl (rg_in px0 (by decide) (by decide)) hr350 dX12_lays_21 (fun v H locs hV ev351 hP hD hS => ?_)
  refine lv_aload_n hx hb dX12_lays_22 rfl (lv_at hl 0 rfl) ?_
  refine va_get (D := D) (ci := 12) (v := .ref (b 1)) (C := RX12) (T := TX12) (N := 24) hx hb hts hin12 hown hK hP 0 rfl rfl 2 (by decide) (hts (.fieldLink RX12 13 "MissedPointsModel" "near" "[I") (by decide +kernel)) (fun _ h9 => h9) rfl dX12_lays_23 ?_
  refine lv_iload_n hx hb dX12_lays_26 rfl (lv_at hl 2 rfl) ?_
  refine lv_aload_n hx hb dX12_lays_27 rfl (lv_at hl 0 rfl) ?_
  refine va_get (D := D) (ci := 12) (v := .ref (b 1)) (C := RX12) (T := TX12) (N := 24) hx hb hts hin12 hown hK hP 0 rfl rfl 2 (by decide) (hts (.fieldLink RX12 13 "MissedPointsModel" "near" "[I") (by decide +kernel)) (fun _ h9 => h9) rfl dX12_lays_28 ?_
  refine lv_iload_n hx hb dX12_lays_31 rfl (lv_at hl 2 rfl) ?_
  refine wk_ald hx hb hK hP 1 0 rfl rfl (rg_in px1 (by decide) (by decide)) dX12_lays_32 hV.1 (fun r352 hr352 => ?_)
  refine lv_iconst (v := 1) hx hb dX12_lays_33 (by decide) ?_
  refine lv_iload_n hx hb dX12_lays_34 rfl (lv_at hl 1 rfl) ?_
  refine wk_ishl1 (f := 2048) hx hb dX12_lays_35 px0 (by decide) (fun r353 hr353 qr353 => ?_)
  refine lv_iconst (v := (-1)) hx hb dX12_lays_36 (by decide) ?_
  refine lv_ixor hx hb dX12_lays_37 ?_
  refine wk_topP (P := fun r => r = r353 ^^^ ((-1) : Int32)) rfl (fun r354 qr354 => ?_)
  refine wk_iandl hx hb dX12_lays_38 hr352 (by decide) (fun r355 hr355 qr355 => ?_)
  refine lv_iload_n hx hb dX12_lays_39 rfl (lv_at hl 3 rfl) ?_
  refine lv_iload_n hx hb dX12_lays_40 rfl (lv_at hl 1 rfl) ?_
  refine wk_ishl (f := 2048) hx hb dX12_lays_41 px2 px0 (by decide) (fun r356 hr356 => ?_)
  refine wk_ior 12 (e1 := 0) (f := 4095) hx hb dX12_lays_42 hr355 hr356 (by decide) (fun r357 hr357 qr357 => ?_)
  refine ms_1 hx hb hK hP hD hS hV rfl (rg_in px1 (by decide) (by decide)) hr357 dX12_lays_43 (fun v H locs hV ev358 hP hD hS => ?_)
  subst hAe
  exact W.vret hx hb hr (fun t ht hW => ⟨⟨v, rfl, ⟨hV, trivial⟩, by rw [ht]; exact hP, hD⟩, hS.F ht⟩) hS.2.2 dX12_lays_44
set_option maxRecDepth 20000 in
theorem ggX12_line_X12_in : GoodIn wsX12_line wsX12_in := goodIn_r _ [14] rfl (by decide +kernel)
set_option maxRecDepth 20000 in
theorem gX12_line_X12_in : GoodIn wsX12_line (va_wsS RX12 66 yX12_in wsX12_in) := goodIn_app (goodIn_of _ (by decide +kernel)) ggX12_line_X12_in
set_option maxRecDepth 20000 in
theorem ggX12_line_X12_lays : GoodIn wsX12_line wsX12_lays := goodIn_r _ [18, 1, 19, 20, 21, 22, 23, 24, 25, 26, 27, 28, 29, 30, 31, 32, 33, 34, 35, 36, 37, 38, 39, 40, 41, 42] rfl (by decide +kernel)
set_option maxRecDepth 20000 in
theorem gX12_line_X12_lays : GoodIn wsX12_line (wsV RX12 81 RX12 yX12_lays wsX12_lays) := goodIn_app (goodIn_of _ (by decide +kernel)) ggX12_line_X12_lays
theorem dX12_line_10 : decode cX12_line 10 = .ok (.iconst 0, 1) := by decide +kernel
theorem dX12_line_11 : decode cX12_line 11 = .ok (.iconst 1, 1) := by decide +kernel
theorem dX12_line_12 : decode cX12_line 12 = .ok (.invokestatic 66, 3) := by decide +kernel
theorem dX12_line_15 : decode cX12_line 15 = .ok (.ifCond .ne 6, 3) := by decide +kernel
theorem dX12_line_21 : decode cX12_line 21 = .ok (.aload_n 0, 1) := by decide +kernel
theorem dX12_line_22 : decode cX12_line 22 = .ok (.getfield 13, 3) := by decide +kernel
theorem dX12_line_25 : decode cX12_line 25 = .ok (.iload_n 1, 1) := by decide +kernel
theorem dX12_line_26 : decode cX12_line 26 = .ok (.iaload, 1) := by decide +kernel
theorem dX12_line_27 : decode cX12_line 27 = .ok (.iload_n 2, 1) := by decide +kernel
theorem dX12_line_28 : decode cX12_line 28 = .ok (.ishr, 1) := by decide +kernel
theorem dX12_line_29 : decode cX12_line 29 = .ok (.iconst 1, 1) := by decide +kernel
theorem dX12_line_30 : decode cX12_line 30 = .ok (.iand, 1) := by decide +kernel
theorem dX12_line_31 : decode cX12_line 31 = .ok (.istore 4, 2) := by decide +kernel
theorem dX12_line_33 : decode cX12_line 33 = .ok (.aload_n 0, 1) := by decide +kernel
theorem dX12_line_34 : decode cX12_line 34 = .ok (.iload_n 1, 1) := by decide +kernel
theorem dX12_line_35 : decode cX12_line 35 = .ok (.iload_n 2, 1) := by decide +kernel
theorem dX12_line_36 : decode cX12_line 36 = .ok (.iload_n 3, 1) := by decide +kernel
theorem dX12_line_37 : decode cX12_line 37 = .ok (.invokevirtual 81, 3) := by decide +kernel
theorem dX12_line_40 : decode cX12_line 40 = .ok (.iload 4, 2) := by decide +kernel
theorem dX12_line_42 : decode cX12_line 42 = .ok (.ireturn, 1) := by decide +kernel
theorem dX12_line_9 : decode cX12_line 9 = .ok (.iload_n 3, 1) := by decide +kernel
set_option maxHeartbeats 4000000 in
set_option maxRecDepth 100000 in
theorem w_X12_line (l : Launch) (D : va_G) (cI cS : ClassId) (sz : Nat) (b : Nat → Nat) (L v0 : SU) (hL : TyL L) (hV : TyV v0) (x0 x1 x2 : Int32) : Met l yX12_line wsX12_line ({ frames := 3, cells := 0, slots := 0, locals := 120 }) (PQ D cI cS (wM cI b L v0) sz [.ref (b 0), .int x0, .int x1, .int x2]) (QF (S := SU) D (wM cI b L v0) (wM cI b L) sz (fun r u => TyV u ∧ Rg (-2) 1 r ∧ True)) 0 0 (va_A (wM cI b L v0) sz) := by
  refine Met.ofW (cc := cX12_line) (maxL := 5) (ret := (some .int)) (by decide) rfl ?_
  intro p e s m args below meth c s₁ B hml hv
  obtain ⟨rfl, hsz, hP, hKK, hD0⟩ := hv
  have hx := B.exec
  have hb := B.bytes
  have hr := B.returns
  have hts := atoms_spec (ws := wsX12_line) B.pre
  have hown : s.vm.findClass RX12 = some m.cls := findClass_of_methodNamed B.named
  have hlocks := B.notSynchronized
  have hK := hKK.1
  have hin12 : ∀ w ∈ wsX120, w ∈ wsX12_line := by decide +kernel
  subst hsz
  have hD := hD0.self (sz := s.heap.size)
  obtain ⟨A, hAe⟩ : ∃ A, A = va_A (wM cI b L v0) s.heap.size := ⟨_, rfl⟩
  rw [← hAe] at hD
  have hA : ∀ q : Nat, s.heap.size ≤ q → A q := fun q h => by rw [hAe]; exact Or.inr h
  have hS : va_S A s.heap s.heap [] := va_S.rf
  have hl := lv_entry ([.ref (b 0), .int x0, .int x1, .int x2]) (n := 5) (Nat.le_of_ble_eq_true rfl)
  rw [lg_entry_eq]
  generalize (lg_sl ([.ref (b 0), .int x0, .int x1, .int x2]) ++ List.replicate (5 - (lg_sl ([.ref (b 0), .int x0, .int x1, .int x2])).length) Slot.unset).toArray = ls at hl ⊢
  have hl : lv_has ls 5 [(0, .ref (b 0)), (1, .int x0), (2, .int x1), (3, .int x2)] := hl
  obtain ⟨v, hv9⟩ : ∃ v : SU, v = v0 := ⟨_, rfl⟩
  rw [← hv9] at hP hD hV
  refine lv_aload_n hx hb dX12_line_0 rfl (lv_at hl 0 rfl) ?_
  refine lv_iload_n hx hb dX12_line_1 rfl (lv_at hl 1 rfl) ?_
  refine lv_iload_n hx hb dX12_line_2 rfl (lv_at hl 2 rfl) ?_
  refine wk_sv 0 (As := [.int x0, .int x1]) (rest := []) ⟨hx, hb, hml, hown, hts⟩ (w_X12_areTwo l D cI cS b L v hL hV x0 x1) hKK hP (ci := 12) rfl rfl (cwV 2 hts gX12_line_X12_areTwo rfl rfl rfl (by decide +kernel) ⟨Nat.le_of_ble_eq_true rfl, Nat.le_of_ble_eq_true rfl⟩) rfl hl.1 rfl (Nat.le_of_ble_eq_true rfl) dX12_line_3 ⟨Nat.le_of_ble_eq_true rfl, Nat.le_of_ble_eq_true rfl⟩ (fun r376 hr376 => ?_)
  refine lv_if_eq (tgt := 18) hx hb dX12_line_6 (by decide) (fun c377 => ?_) (fun c377 => ?_)
  · have g378 : Rg 0 0 r376 := wk_eql hr376.1 (by decide : Rg 0 0 (0 : Int32)) c377 (by decide)
    refine lv_bipush (v := (-2)) hx hb dX12_line_18 (by decide) ?_
    subst hAe
    exact W.iret (v := (-2)) hx hb hr (fun t ht hW => ⟨⟨_, v, rfl, ⟨hV, (by decide : Rg (-2) 1 ((-2) : Int32)), trivial⟩, by rw [ht]; exact hP, hD⟩, hS.F ht⟩) hS.2.2 dX12_line_20
  · have g379 : Rg 0 11 x0 := (hr376.2 c377).1
    have g380 : Rg 0 11 x1 := (hr376.2 c377).2
    have g381 : Rg 1 1 r376 := rg_ne_lo (k := 0) hr376.1 (by decide) c377 (by decide)
    refine lv_iload_n hx hb dX12_line_9 rfl (lv_at hl 3 rfl) ?_
    refine lv_iconst (v := 0) hx hb dX12_line_10 (by decide) ?_
    refine lv_iconst (v := 1) hx hb dX12_line_11 (by decide) ?_
    refine lz_ss (As := [.int x2, .int 0, .int 1]) (rest := []) ⟨hx, hb, hml, hown, hts⟩ (w_X12_in l D cI cS x2 (0 : Int32) (1 : Int32)) hKK (hP.sub (ws' := []) [] rfl) (va_cwS 3 hts gX12_line_X12_in rfl rfl rfl (by decide +kernel) ⟨Nat.le_of_ble_eq_true rfl, Nat.le_of_ble_eq_true rfl⟩) rfl hl.1 rfl (Nat.le_of_ble_eq_true rfl) dX12_line_12 ⟨Nat.le_of_ble_eq_true rfl, Nat.le_of_ble_eq_true rfl⟩ (fun r382 hr382 => ?_)
    refine lv_if_ne (tgt := 21) hx hb dX12_line_15 (by decide) (fun c383 => ?_) (fun c383 => ?_)
    · have zn384 : (0 : Int32).toInt ≤ x2.toInt ∧ x2.toInt ≤ (1 : Int32).toInt := (hr382.2.2 c383)
      have g385 : Rg 0 1 x2 := wk_in3 (rg_any x2) (by decide : Rg 0 0 (0 : Int32)) (by decide : Rg 1 1 (1 : Int32)) (hr382.2.2 c383) (by decide)
      have g386 : Rg 1 1 r382 := rg_ne_lo (k := 0) hr382.1 (by decide) c383 (by decide)
      refine lv_aload_n hx hb dX12_line_21 rfl (lv_at hl 0 rfl) ?_
      refine va_get (D := D) (ci := 12) (v := .ref (b 1)) (C := RX12) (T := TX12) (N := 24) hx hb hts hin12 hown hK hP 0 rfl rfl 2 (by decide) (hts (.fieldLink RX12 13 "MissedPointsModel" "near" "[I") (by decide +kernel)) (fun _ h9 => h9) rfl dX12_line_22 ?_
      refine lv_iload_n hx hb dX12_line_25 rfl (lv_at hl 1 rfl) ?_
      refine wk_ald hx hb hK hP 1 0 rfl rfl (rg_in g379 (by decide) (by decide)) dX12_line_26 hV.1 (fun r387 hr387 => ?_)
      refine lv_iload_n hx hb dX12_line_27 rfl (lv_at hl 2 rfl) ?_
      refine lv_ishr hx hb dX12_line_28 ?_
      refine wk_topP (P := fun r => r = r387 >>> (x1 &&& 31)) rfl (fun r388 qr388 => ?_)
      refine lv_iconst (v := 1) hx hb dX12_line_29 (by decide) ?_
      refine wk_iandr hx hb dX12_line_30 (by decide : Rg 1 1 (1 : Int32)) (by decide) (fun r389 hr389 qr389 => ?_)
      refine lv_istore (lv' := [(4, .int r389), (0, .ref (b 0)), (1, .int x0), (2, .int x1), (3, .int x2)]) hx hb dX12_line_31 hl (by decide) rfl (fun ls hl => ?_)
      refine lv_aload_n hx hb dX12_line_33 rfl (lv_at hl 1 rfl) ?_
      refine lv_iload_n hx hb dX12_line_34 rfl (lv_at hl 2 rfl) ?_
      refine lv_iload_n hx hb dX12_line_35 rfl (lv_at hl 3 rfl) ?_
      refine lv_iload_n hx hb dX12_line_36 rfl (lv_at hl 4 rfl) ?_
      refine wk_qv (wM cI b L) v (As := [.int x0, .int x1, .int x2]) (rest := []) ⟨hx, hb, hml, hown, hts⟩ (w_X12_lays l D cI cS _ b L v hL hV x0 x1 x2 g379 g380 g385) hKK hP hD hS hA 0 (ci := 12) rfl rfl (cwV 3 hts gX12_line_X12_lays rfl rfl rfl (by decide +kernel) ⟨Nat.le_of_ble_eq_true rfl, Nat.le_of_ble_eq_true rfl⟩) rfl hl.1 rfl (Nat.le_of_ble_eq_true rfl) dX12_line_37 ⟨Nat.le_of_ble_eq_true rfl, Nat.le_of_ble_eq_true rfl⟩ (fun v H locs hr390 hP hD hS => ?_)
      have hV := hr390.1
      refine lv_iload hx hb dX12_line_40 (lv_at hl 0 rfl) ?_
      subst hAe
      exact W.iret (v := r389) hx hb hr (fun t ht hW => ⟨⟨_, v, rfl, ⟨hV, (show Rg (-2) 1 r389 from rg_w hr389 (by decide) (by decide)), trivial⟩, by rw [ht]; exact hP, hD⟩, hS.F ht⟩) hS.2.2 dX12_line_42
    · have zt391 : (x2.toInt < (0 : Int32).toInt ∨ (1 : Int32).toInt < x2.toInt) := hr382.2.1 c383
      have g392 : Rg 0 0 r382 := wk_eql hr382.1 (by decide : Rg 0 0 (0 : Int32)) c383 (by decide)
      refine lv_bipush (v := (-2)) hx hb dX12_line_18 (by decide) ?_
      subst hAe
      exact W.iret (v := (-2)) hx hb hr (fun t ht hW => ⟨⟨_, v, rfl, ⟨hV, (by decide : Rg (-2) 1 ((-2) : Int32)), trivial⟩, by rw [ht]; exact hP, hD⟩, hS.F ht⟩) hS.2.2 dX12_line_20
set_option maxHeartbeats 4000000 in
set_option maxRecDepth 100000 in
theorem w_X12_reckons (l : Launch) (D : va_G) (cI cS : ClassId) (sz : Nat) (b : Nat → Nat) (L v0 : SU) (hL : TyL L) (hV : TyV v0) : Met l yX12_reckons wsX12_reckons ({ frames := 2, cells := 0, slots := 0, locals := 80 }) (PQ D cI cS (wM cI b L v0) sz [.ref (b 0)]) (QE (S := SU) D (wM cI b L v0) (wM cI b L) sz (fun u => TyV u ∧ True)) 0 0 (va_A (wM cI b L v0) sz) := by
  refine Met.ofW (cc := cX12_reckons) (maxL := 5) (ret := none) (by decide) rfl ?_
  intro p e s m args below meth c s₁ B hml hv
  obtain ⟨rfl, hsz, hP, hKK, hD0⟩ := hv
  have hx := B.exec
  have hb := B.bytes
  have hr := B.returns
  have hts := atoms_spec (ws := wsX12_reckons) B.pre
  have hown : s.vm.findClass RX12 = some m.cls := findClass_of_methodNamed B.named
  have hlocks := B.notSynchronized
  have hK := hKK.1
  have hin12 : ∀ w ∈ wsX120, w ∈ wsX12_reckons := by decide +kernel
  subst hsz
  have hD := hD0.self (sz := s.heap.size)
  obtain ⟨A, hAe⟩ : ∃ A, A = va_A (wM cI b L v0) s.heap.size := ⟨_, rfl⟩
  rw [← hAe] at hD
  have hA : ∀ q : Nat, s.heap.size ≤ q → A q := fun q h => by rw [hAe]; exact Or.inr h
  have hS : va_S A s.heap s.heap [] := va_S.rf
  have hl := lv_entry ([.ref (b 0)]) (n := 5) (Nat.le_of_ble_eq_true rfl)
  rw [lg_entry_eq]
  generalize (lg_sl ([.ref (b 0)]) ++ List.replicate (5 - (lg_sl ([.ref (b 0)])).length) Slot.unset).toArray = ls at hl ⊢
  have hl : lv_has ls 5 [(0, .ref (b 0))] := hl
  obtain ⟨v, hv9⟩ : ∃ v : SU, v = v0 := ⟨_, rfl⟩
  rw [← hv9] at hP hD hV
  have lp9 : ∀ (n9 : Nat) (y9_l1 : Int32) (v : SU) (H : Heap) (locs : List Loc) (ls : Array Slot), Rg 1 4096 y9_l1 → TyV v → va_P D cls (wM cI b L v) H → va_D A (wM cI b L v) → va_S A s.heap H locs → lv_has ls 5 [(0, .ref (b 0)), (1, .int y9_l1)] → 4096 - y9_l1.toInt < (n9 : Int) → W p l e (headSpec wsX12_reckons ({ frames := 2, cells := 0, slots := 0, locals := 80 })).room s m ([.ref (b 0)]).toArray below meth c H locs 0 0 (MQ below (QE (S := SU) D (wM cI b L v0) (wM cI b L) s.heap.size (fun u => TyV u ∧ True)) ([.ref (b 0)]).toArray s 0 0 (va_A (wM cI b L v0) s.heap.size)) (F0 m 9 ls []) := by
    intro n9
    induction n9 with
    | zero =>
      intro y9_l1 v H locs ls g9_l1 hV hP hD hS hl hm9
      exact absurd rfl (me_z g9_l1 hm9)
    | succ n9 ih9 =>
      intro y9_l1 v H locs ls g9_l1 hV hP hD hS hl hm9
      have lp155 : ∀ (n155 : Nat) (y155_l2 : Int32) (y155_l3 : Int32) (y155_l4 : Int32) (v : SU) (H : Heap) (locs : List Loc) (ls : Array Slot), Rg 1 4095 y9_l1 → Rg 0 11 y155_l2 → Rg 0 4095 y155_l3 → Rg 1 12 y155_l4 → TyV v → va_P D cls (wM cI b L v) H → va_D A (wM cI b L v) → va_S A s.heap H locs → lv_has ls 5 [(0, .ref (b 0)), (1, .int y9_l1), (2, .int y155_l2), (3, .int y155_l3), (4, .int y155_l4)] → 12 - y155_l4.toInt < (n155 : Int) → W p l e (headSpec wsX12_reckons ({ frames := 2, cells := 0, slots := 0, locals := 80 })).room s m ([.ref (b 0)]).toArray below meth c H locs 0 0 (MQ below (QE (S := SU) D (wM cI b L v0) (wM cI b L) s.heap.size (fun u => TyV u ∧ True)) ([.ref (b 0)]).toArray s 0 0 (va_A (wM cI b L v0) s.heap.size)) (F0 m 155 ls []) := by
        intro n155
        induction n155 with
        | zero =>
          intro y155_l2 y155_l3 y155_l4 v H locs ls g155_l1 g155_l2 g155_l3 g155_l4 hV hP hD hS hl hm155
          exact absurd rfl (me_z g155_l4 hm155)
        | succ n155 ih155 =>
          intro y155_l2 y155_l3 y155_l4 v H locs ls g155_l1 g155_l2 g155_l3 g155_l4 hV hP hD hS hl hm155
          refine lv_iload hx hb dX12_reckons_155 (lv_at hl 4 rfl) ?_
          refine lv_aload_n hx hb dX12_reckons_157 rfl (lv_at hl 0 rfl) ?_
          refine va_get (D := D) (ci := 12) (v := .int (L 0 0)) (C := RX12) (T := TX12) (N := 24) hx hb hts hin12 hown hK hP 0 rfl rfl 0 (by decide) (hts (.fieldLink RX12 63 "MissedPointsModel" "many" "I") (by decide +kernel)) (fun _ h9 => h9) rfl dX12_reckons_158 ?_
          refine lv_icmp_ge (tgt := 232) hx hb dX12_reckons_161 (by decide) (fun c1940 => ?_) (fun c1940 => ?_)
          · refine wk_iinc (lv' := fun r => [(1, .int r), (0, .ref (b 0)), (2, .int y155_l2), (3, .int y155_l3), (4, .int y155_l4)]) (e1 := 2) (f := 4096) hx hb dX12_reckons_232 hl (k := 1) rfl (by decide) g155_l1 (by decide) (fun _ => rfl) (fun r1941 ls hr1941 er1941 hl => ?_)
            refine lv_goto (tgt := 9) hx hb dX12_reckons_235 (by decide) ?_
            exact ih9 r1941 v _ _ ls (show Rg 1 4096 r1941 from rg_w hr1941 (by decide) (by decide)) hV hP hD hS (lv_sub (l' := [(0, .ref (b 0)), (1, .int r1941)]) hl [1, 0] rfl) (me_up hm9 er1941 (by decide))
          · have g1942 : Rg 2 12 (L 0 0) := rg_ltr g155_l4 hL.1 (rg_nle c1940) (by decide)
            have g1943 : Rg 1 11 y155_l4 := rg_ltl g155_l4 hL.1 (rg_nle c1940) (by decide)
            refine lv_iload_n hx hb dX12_reckons_164 rfl (lv_at hl 3 rfl) ?_
            refine lv_aload_n hx hb dX12_reckons_165 rfl (lv_at hl 0 rfl) ?_
            refine va_get (D := D) (ci := 12) (v := .ref (b 1)) (C := RX12) (T := TX12) (N := 24) hx hb hts hin12 hown hK hP 0 rfl rfl 2 (by decide) (hts (.fieldLink RX12 13 "MissedPointsModel" "near" "[I") (by decide +kernel)) (fun _ h9 => h9) rfl dX12_reckons_166 ?_
            refine lv_iload_n hx hb dX12_reckons_169 rfl (lv_at hl 2 rfl) ?_
            refine wk_ald hx hb hK hP 1 0 rfl rfl (rg_in g155_l2 (by decide) (by decide)) dX12_reckons_170 hV.1 (fun r1944 hr1944 => ?_)
            refine wk_iandl hx hb dX12_reckons_171 g155_l3 (by decide) (fun r1945 hr1945 qr1945 => ?_)
            refine lv_iload hx hb dX12_reckons_172 (lv_at hl 4 rfl) ?_
            refine lz_ss (As := [.int r1945, .int y155_l4]) (rest := []) ⟨hx, hb, hml, hown, hts⟩ (w_X12_has l D cI cS r1945 y155_l4) hKK (hP.sub (ws' := []) [] rfl) (va_cwS 2 hts gX12_reckons_X12_has rfl rfl rfl (by decide +kernel) ⟨Nat.le_of_ble_eq_true rfl, Nat.le_of_ble_eq_true rfl⟩) rfl hl.1 rfl (Nat.le_of_ble_eq_true rfl) dX12_reckons_174 ⟨Nat.le_of_ble_eq_true rfl, Nat.le_of_ble_eq_true rfl⟩ (fun r1946 hr1946 => ?_)
            refine lv_if_eq (tgt := 226) hx hb dX12_reckons_177 (by decide) (fun c1947 => ?_) (fun c1947 => ?_)
            · have g1948 : Rg 0 0 r1946 := wk_eql hr1946.1 (by decide : Rg 0 0 (0 : Int32)) c1947 (by decide)
              refine wk_iinc (lv' := fun r => [(4, .int r), (0, .ref (b 0)), (1, .int y9_l1), (2, .int y155_l2), (3, .int y155_l3)]) (e1 := 2) (f := 12) hx hb dX12_reckons_226 hl (k := 4) rfl (by decide) g1943 (by decide) (fun _ => rfl) (fun r1949 ls hr1949 er1949 hl => ?_)
              refine lv_goto (tgt := 155) hx hb dX12_reckons_229 (by decide) ?_
              exact ih155 y155_l2 y155_l3 r1949 v _ _ ls g155_l1 g155_l2 g155_l3 (show Rg 1 12 r1949 from rg_w hr1949 (by decide) (by decide)) hV hP hD hS (lv_sub (l' := [(0, .ref (b 0)), (1, .int y9_l1), (2, .int y155_l2), (3, .int y155_l3), (4, .int r1949)]) hl [1, 2, 3, 4, 0] rfl) (me_up hm155 er1949 (by decide))
            · have g1950 : Rg 1 1 r1946 := rg_ne_lo (k := 0) hr1946.1 (by decide) c1947 (by decide)
              refine lv_aload_n hx hb dX12_reckons_180 rfl (lv_at hl 0 rfl) ?_
              refine va_get (D := D) (ci := 12) (v := .ref (b 2)) (C := RX12) (T := TX12) (N := 24) hx hb hts hin12 hown hK hP 0 rfl rfl 3 (by decide) (hts (.fieldLink RX12 17 "MissedPointsModel" "pairs" "[I") (by decide +kernel)) (fun _ h9 => h9) rfl dX12_reckons_181 ?_
              refine lv_iload_n hx hb dX12_reckons_184 rfl (lv_at hl 3 rfl) ?_
              refine lv_iconst (v := 1) hx hb dX12_reckons_185 (by decide) ?_
              refine lv_iload hx hb dX12_reckons_186 (lv_at hl 4 rfl) ?_
              refine wk_ishl1 (f := 2048) hx hb dX12_reckons_188 (show Rg 0 11 y155_l4 from rg_w g1943 (by decide) (by decide)) (by decide) (fun r1951 hr1951 qr1951 => ?_)
              refine lv_iconst (v := (-1)) hx hb dX12_reckons_189 (by decide) ?_
              refine lv_ixor hx hb dX12_reckons_190 ?_
              refine wk_topP (P := fun r => r = r1951 ^^^ ((-1) : Int32)) rfl (fun r1952 qr1952 => ?_)
              refine wk_iandl hx hb dX12_reckons_191 g155_l3 (by decide) (fun r1953 hr1953 qr1953 => ?_)
              refine wk_aldA hx hb hK hP 2 0 rfl rfl (rg_in hr1953 (by decide) (by decide)) dX12_reckons_192 (fun r1954 => ?_)
              refine lv_iconst (v := 1) hx hb dX12_reckons_193 (by decide) ?_
              refine lv_iadd hx hb dX12_reckons_194 ?_
              refine wk_topP (P := fun r => r = r1954 + (1 : Int32)) rfl (fun r1955 qr1955 => ?_)
              refine lv_aload_n hx hb dX12_reckons_195 rfl (lv_at hl 0 rfl) ?_
              refine va_get (D := D) (ci := 12) (v := .ref (b 2)) (C := RX12) (T := TX12) (N := 24) hx hb hts hin12 hown hK hP 0 rfl rfl 3 (by decide) (hts (.fieldLink RX12 17 "MissedPointsModel" "pairs" "[I") (by decide +kernel)) (fun _ h9 => h9) rfl dX12_reckons_196 ?_
              refine lv_iload_n hx hb dX12_reckons_199 rfl (lv_at hl 1 rfl) ?_
              refine wk_aldA hx hb hK hP 2 0 rfl rfl (rg_in g155_l1 (by decide) (by decide)) dX12_reckons_200 (fun r1956 => ?_)
              refine lv_icmp_ne (tgt := 226) hx hb dX12_reckons_201 (by decide) (fun c1957 => ?_) (fun c1957 => ?_)
              · refine wk_iinc (lv' := fun r => [(4, .int r), (0, .ref (b 0)), (1, .int y9_l1), (2, .int y155_l2), (3, .int y155_l3)]) (e1 := 2) (f := 12) hx hb dX12_reckons_226 hl (k := 4) rfl (by decide) g1943 (by decide) (fun _ => rfl) (fun r1958 ls hr1958 er1958 hl => ?_)
                refine lv_goto (tgt := 155) hx hb dX12_reckons_229 (by decide) ?_
                exact ih155 y155_l2 y155_l3 r1958 v _ _ ls g155_l1 g155_l2 g155_l3 (show Rg 1 12 r1958 from rg_w hr1958 (by decide) (by decide)) hV hP hD hS (lv_sub (l' := [(0, .ref (b 0)), (1, .int y9_l1), (2, .int y155_l2), (3, .int y155_l3), (4, .int r1958)]) hl [1, 2, 3, 4, 0] rfl) (me_up hm155 er1958 (by decide))
              · refine lv_aload_n hx hb dX12_reckons_204 rfl (lv_at hl 0 rfl) ?_
                refine va_get (D := D) (ci := 12) (v := .ref (b 3)) (C := RX12) (T := TX12) (N := 24) hx hb hts hin12 hown hK hP 0 rfl rfl 4 (by decide) (hts (.fieldLink RX12 20 "MissedPointsModel" "greatestWays" "[I") (by decide +kernel)) (fun _ h9 => h9) rfl dX12_reckons_205 ?_
                refine lv_iload_n hx hb dX12_reckons_208 rfl (lv_at hl 1 rfl) ?_
                refine lv_dup2_11 hx hb dX12_reckons_209 rfl rfl ?_
                refine wk_aldA hx hb hK hP 3 0 rfl rfl (rg_in g155_l1 (by decide) (by decide)) dX12_reckons_210 (fun r1959 => ?_)
                refine lv_aload_n hx hb dX12_reckons_211 rfl (lv_at hl 0 rfl) ?_
                refine va_get (D := D) (ci := 12) (v := .ref (b 3)) (C := RX12) (T := TX12) (N := 24) hx hb hts hin12 hown hK hP 0 rfl rfl 4 (by decide) (hts (.fieldLink RX12 20 "MissedPointsModel" "greatestWays" "[I") (by decide +kernel)) (fun _ h9 => h9) rfl dX12_reckons_212 ?_
                refine lv_iload_n hx hb dX12_reckons_215 rfl (lv_at hl 3 rfl) ?_
                refine lv_iconst (v := 1) hx hb dX12_reckons_216 (by decide) ?_
                refine lv_iload hx hb dX12_reckons_217 (lv_at hl 4 rfl) ?_
                refine wk_ishl1 (f := 2048) hx hb dX12_reckons_219 (show Rg 0 11 y155_l4 from rg_w g1943 (by decide) (by decide)) (by decide) (fun r1960 hr1960 qr1960 => ?_)
                refine lv_iconst (v := (-1)) hx hb dX12_reckons_220 (by decide) ?_
                refine lv_ixor hx hb dX12_reckons_221 ?_
                refine wk_topP (P := fun r => r = r1960 ^^^ ((-1) : Int32)) rfl (fun r1961 qr1961 => ?_)
                refine wk_iandl hx hb dX12_reckons_222 g155_l3 (by decide) (fun r1962 hr1962 qr1962 => ?_)
                refine wk_aldA hx hb hK hP 3 0 rfl rfl (rg_in hr1962 (by decide) (by decide)) dX12_reckons_223 (fun r1963 => ?_)
                refine lv_iadd hx hb dX12_reckons_224 ?_
                refine wk_topP (P := fun r => r = r1959 + r1963) rfl (fun r1964 qr1964 => ?_)
                refine ms_3 hx hb hK hP hD hS hV rfl (rg_in g155_l1 (by decide) (by decide)) dX12_reckons_225 (fun v H locs hV ev1965 hP hD hS => ?_)
                refine wk_iinc (lv' := fun r => [(4, .int r), (0, .ref (b 0)), (1, .int y9_l1), (2, .int y155_l2), (3, .int y155_l3)]) (e1 := 2) (f := 12) hx hb dX12_reckons_226 hl (k := 4) rfl (by decide) g1943 (by decide) (fun _ => rfl) (fun r1966 ls hr1966 er1966 hl => ?_)
                refine lv_goto (tgt := 155) hx hb dX12_reckons_229 (by decide) ?_
                exact ih155 y155_l2 y155_l3 r1966 v _ _ ls g155_l1 g155_l2 g155_l3 (show Rg 1 12 r1966 from rg_w hr1966 (by decide) (by decide)) hV hP hD hS (lv_sub (l' := [(0, .ref (b 0)), (1, .int y9_l1), (2, .int y155_l2), (3, .int y155_l3), (4, .int r1966)]) hl [1, 2, 3, 4, 0] rfl) (me_up hm155 er1966 (by decide))
      have lp45 : ∀ (n45 : Nat) (y45_l2 : Int32) (y45_l3 : Int32) (y45_l4 : Int32) (v : SU) (H : Heap) (locs : List Loc) (ls : Array Slot), Rg 1 4095 y9_l1 → Rg 0 11 y45_l2 → Rg 0 4095 y45_l3 → Rg 1 12 y45_l4 → TyV v → va_P D cls (wM cI b L v) H → va_D A (wM cI b L v) → va_S A s.heap H locs → lv_has ls 5 [(0, .ref (b 0)), (1, .int y9_l1), (2, .int y45_l2), (3, .int y45_l3), (4, .int y45_l4)] → 12 - y45_l4.toInt < (n45 : Int) → W p l e (headSpec wsX12_reckons ({ frames := 2, cells := 0, slots := 0, locals := 80 })).room s m ([.ref (b 0)]).toArray below meth c H locs 0 0 (MQ below (QE (S := SU) D (wM cI b L v0) (wM cI b L) s.heap.size (fun u => TyV u ∧ True)) ([.ref (b 0)]).toArray s 0 0 (va_A (wM cI b L v0) s.heap.size)) (F0 m 45 ls []) := by
        intro n45
        induction n45 with
        | zero =>
          intro y45_l2 y45_l3 y45_l4 v H locs ls g45_l1 g45_l2 g45_l3 g45_l4 hV hP hD hS hl hm45
          exact absurd rfl (me_z g45_l4 hm45)
        | succ n45 ih45 =>
          intro y45_l2 y45_l3 y45_l4 v H locs ls g45_l1 g45_l2 g45_l3 g45_l4 hV hP hD hS hl hm45
          refine lv_iload hx hb dX12_reckons_45 (lv_at hl 4 rfl) ?_
          refine lv_aload_n hx hb dX12_reckons_47 rfl (lv_at hl 0 rfl) ?_
          refine va_get (D := D) (ci := 12) (v := .int (L 0 0)) (C := RX12) (T := TX12) (N := 24) hx hb hts hin12 hown hK hP 0 rfl rfl 0 (by decide) (hts (.fieldLink RX12 63 "MissedPointsModel" "many" "I") (by decide +kernel)) (fun _ h9 => h9) rfl dX12_reckons_48 ?_
          refine lv_icmp_ge (tgt := 119) hx hb dX12_reckons_51 (by decide) (fun c1967 => ?_) (fun c1967 => ?_)
          · refine lv_aload_n hx hb dX12_reckons_119 rfl (lv_at hl 0 rfl) ?_
            refine va_get (D := D) (ci := 12) (v := .ref (b 3)) (C := RX12) (T := TX12) (N := 24) hx hb hts hin12 hown hK hP 0 rfl rfl 4 (by decide) (hts (.fieldLink RX12 20 "MissedPointsModel" "greatestWays" "[I") (by decide +kernel)) (fun _ h9 => h9) rfl dX12_reckons_120 ?_
            refine lv_iload_n hx hb dX12_reckons_123 rfl (lv_at hl 1 rfl) ?_
            refine lv_aload_n hx hb dX12_reckons_124 rfl (lv_at hl 0 rfl) ?_
            refine va_get (D := D) (ci := 12) (v := .ref (b 2)) (C := RX12) (T := TX12) (N := 24) hx hb hts hin12 hown hK hP 0 rfl rfl 3 (by decide) (hts (.fieldLink RX12 17 "MissedPointsModel" "pairs" "[I") (by decide +kernel)) (fun _ h9 => h9) rfl dX12_reckons_125 ?_
            refine lv_iload_n hx hb dX12_reckons_128 rfl (lv_at hl 3 rfl) ?_
            refine wk_aldA hx hb hK hP 2 0 rfl rfl (rg_in g45_l3 (by decide) (by decide)) dX12_reckons_129 (fun r1968 => ?_)
            refine lv_aload_n hx hb dX12_reckons_130 rfl (lv_at hl 0 rfl) ?_
            refine va_get (D := D) (ci := 12) (v := .ref (b 2)) (C := RX12) (T := TX12) (N := 24) hx hb hts hin12 hown hK hP 0 rfl rfl 3 (by decide) (hts (.fieldLink RX12 17 "MissedPointsModel" "pairs" "[I") (by decide +kernel)) (fun _ h9 => h9) rfl dX12_reckons_131 ?_
            refine lv_iload_n hx hb dX12_reckons_134 rfl (lv_at hl 1 rfl) ?_
            refine wk_aldA hx hb hK hP 2 0 rfl rfl (rg_in g45_l1 (by decide) (by decide)) dX12_reckons_135 (fun r1969 => ?_)
            refine lv_icmp_ne (tgt := 148) hx hb dX12_reckons_136 (by decide) (fun c1970 => ?_) (fun c1970 => ?_)
            · refine lv_iconst (v := 0) hx hb dX12_reckons_148 (by decide) ?_
              refine ms_3 hx hb hK hP hD hS hV rfl (rg_in g45_l1 (by decide) (by decide)) dX12_reckons_149 (fun v H locs hV ev1971 hP hD hS => ?_)
              refine lv_iload_n hx hb dX12_reckons_150 rfl (lv_at hl 2 rfl) ?_
              refine lv_iconst (v := 1) hx hb dX12_reckons_151 (by decide) ?_
              refine wk_iadd (e1 := 1) (f := 12) hx hb dX12_reckons_152 g45_l2 (by decide : Rg 1 1 (1 : Int32)) (by decide) (fun r1972 hr1972 er1972 qr1972 => ?_)
              refine lv_istore (lv' := [(4, .int r1972), (0, .ref (b 0)), (1, .int y9_l1), (2, .int y45_l2), (3, .int y45_l3)]) hx hb dX12_reckons_153 hl (by decide) rfl (fun ls hl => ?_)
              exact lp155 12 y45_l2 y45_l3 r1972 v _ _ ls g45_l1 g45_l2 g45_l3 hr1972 hV hP hD hS (lv_sub (l' := [(0, .ref (b 0)), (1, .int y9_l1), (2, .int y45_l2), (3, .int y45_l3), (4, .int r1972)]) hl [1, 2, 3, 4, 0] rfl) (me_i hr1972 (by decide))
            · refine lv_aload_n hx hb dX12_reckons_139 rfl (lv_at hl 0 rfl) ?_
              refine va_get (D := D) (ci := 12) (v := .ref (b 3)) (C := RX12) (T := TX12) (N := 24) hx hb hts hin12 hown hK hP 0 rfl rfl 4 (by decide) (hts (.fieldLink RX12 20 "MissedPointsModel" "greatestWays" "[I") (by decide +kernel)) (fun _ h9 => h9) rfl dX12_reckons_140 ?_
              refine lv_iload_n hx hb dX12_reckons_143 rfl (lv_at hl 3 rfl) ?_
              refine wk_aldA hx hb hK hP 3 0 rfl rfl (rg_in g45_l3 (by decide) (by decide)) dX12_reckons_144 (fun r1973 => ?_)
              refine lv_goto (tgt := 149) hx hb dX12_reckons_145 (by decide) ?_
              refine ms_3 hx hb hK hP hD hS hV rfl (rg_in g45_l1 (by decide) (by decide)) dX12_reckons_149 (fun v H locs hV ev1974 hP hD hS => ?_)
              refine lv_iload_n hx hb dX12_reckons_150 rfl (lv_at hl 2 rfl) ?_
              refine lv_iconst (v := 1) hx hb dX12_reckons_151 (by decide) ?_
              refine wk_iadd (e1 := 1) (f := 12) hx hb dX12_reckons_152 g45_l2 (by decide : Rg 1 1 (1 : Int32)) (by decide) (fun r1975 hr1975 er1975 qr1975 => ?_)
              refine lv_istore (lv' := [(4, .int r1975), (0, .ref (b 0)), (1, .int y9_l1), (2, .int y45_l2), (3, .int y45_l3)]) hx hb dX12_reckons_153 hl (by decide) rfl (fun ls hl => ?_)
              exact lp155 12 y45_l2 y45_l3 r1975 v _ _ ls g45_l1 g45_l2 g45_l3 hr1975 hV hP hD hS (lv_sub (l' := [(0, .ref (b 0)), (1, .int y9_l1), (2, .int y45_l2), (3, .int y45_l3), (4, .int r1975)]) hl [1, 2, 3, 4, 0] rfl) (me_i hr1975 (by decide))
          · have g1976 : Rg 2 12 (L 0 0) := rg_ltr g45_l4 hL.1 (rg_nle c1967) (by decide)
            have g1977 : Rg 1 11 y45_l4 := rg_ltl g45_l4 hL.1 (rg_nle c1967) (by decide)
            refine lv_iload_n hx hb dX12_reckons_54 rfl (lv_at hl 3 rfl) ?_
            refine lv_aload_n hx hb dX12_reckons_55 rfl (lv_at hl 0 rfl) ?_
            refine va_get (D := D) (ci := 12) (v := .ref (b 1)) (C := RX12) (T := TX12) (N := 24) hx hb hts hin12 hown hK hP 0 rfl rfl 2 (by decide) (hts (.fieldLink RX12 13 "MissedPointsModel" "near" "[I") (by decide +kernel)) (fun _ h9 => h9) rfl dX12_reckons_56 ?_
            refine lv_iload_n hx hb dX12_reckons_59 rfl (lv_at hl 2 rfl) ?_
            refine wk_ald hx hb hK hP 1 0 rfl rfl (rg_in g45_l2 (by decide) (by decide)) dX12_reckons_60 hV.1 (fun r1978 hr1978 => ?_)
            refine wk_iandl hx hb dX12_reckons_61 g45_l3 (by decide) (fun r1979 hr1979 qr1979 => ?_)
            refine lv_iload hx hb dX12_reckons_62 (lv_at hl 4 rfl) ?_
            refine lz_ss (As := [.int r1979, .int y45_l4]) (rest := []) ⟨hx, hb, hml, hown, hts⟩ (w_X12_has l D cI cS r1979 y45_l4) hKK (hP.sub (ws' := []) [] rfl) (va_cwS 2 hts gX12_reckons_X12_has rfl rfl rfl (by decide +kernel) ⟨Nat.le_of_ble_eq_true rfl, Nat.le_of_ble_eq_true rfl⟩) rfl hl.1 rfl (Nat.le_of_ble_eq_true rfl) dX12_reckons_64 ⟨Nat.le_of_ble_eq_true rfl, Nat.le_of_ble_eq_true rfl⟩ (fun r1980 hr1980 => ?_)
            refine lv_if_eq (tgt := 113) hx hb dX12_reckons_67 (by decide) (fun c1981 => ?_) (fun c1981 => ?_)
            · have g1982 : Rg 0 0 r1980 := wk_eql hr1980.1 (by decide : Rg 0 0 (0 : Int32)) c1981 (by decide)
              refine wk_iinc (lv' := fun r => [(4, .int r), (0, .ref (b 0)), (1, .int y9_l1), (2, .int y45_l2), (3, .int y45_l3)]) (e1 := 2) (f := 12) hx hb dX12_reckons_113 hl (k := 4) rfl (by decide) g1977 (by decide) (fun _ => rfl) (fun r1983 ls hr1983 er1983 hl => ?_)
              refine lv_goto (tgt := 45) hx hb dX12_reckons_116 (by decide) ?_
              exact ih45 y45_l2 y45_l3 r1983 v _ _ ls g45_l1 g45_l2 g45_l3 (show Rg 1 12 r1983 from rg_w hr1983 (by decide) (by decide)) hV hP hD hS (lv_sub (l' := [(0, .ref (b 0)), (1, .int y9_l1), (2, .int y45_l2), (3, .int y45_l3), (4, .int r1983)]) hl [1, 2, 3, 4, 0] rfl) (me_up hm45 er1983 (by decide))
            · have g1984 : Rg 1 1 r1980 := rg_ne_lo (k := 0) hr1980.1 (by decide) c1981 (by decide)
              refine lv_aload_n hx hb dX12_reckons_70 rfl (lv_at hl 0 rfl) ?_
              refine va_get (D := D) (ci := 12) (v := .ref (b 2)) (C := RX12) (T := TX12) (N := 24) hx hb hts hin12 hown hK hP 0 rfl rfl 3 (by decide) (hts (.fieldLink RX12 17 "MissedPointsModel" "pairs" "[I") (by decide +kernel)) (fun _ h9 => h9) rfl dX12_reckons_71 ?_
              refine lv_iload_n hx hb dX12_reckons_74 rfl (lv_at hl 3 rfl) ?_
              refine lv_iconst (v := 1) hx hb dX12_reckons_75 (by decide) ?_
              refine lv_iload hx hb dX12_reckons_76 (lv_at hl 4 rfl) ?_
              refine wk_ishl1 (f := 2048) hx hb dX12_reckons_78 (show Rg 0 11 y45_l4 from rg_w g1977 (by decide) (by decide)) (by decide) (fun r1985 hr1985 qr1985 => ?_)
              refine lv_iconst (v := (-1)) hx hb dX12_reckons_79 (by decide) ?_
              refine lv_ixor hx hb dX12_reckons_80 ?_
              refine wk_topP (P := fun r => r = r1985 ^^^ ((-1) : Int32)) rfl (fun r1986 qr1986 => ?_)
              refine wk_iandl hx hb dX12_reckons_81 g45_l3 (by decide) (fun r1987 hr1987 qr1987 => ?_)
              refine wk_aldA hx hb hK hP 2 0 rfl rfl (rg_in hr1987 (by decide) (by decide)) dX12_reckons_82 (fun r1988 => ?_)
              refine lv_aload_n hx hb dX12_reckons_83 rfl (lv_at hl 0 rfl) ?_
              refine va_get (D := D) (ci := 12) (v := .ref (b 2)) (C := RX12) (T := TX12) (N := 24) hx hb hts hin12 hown hK hP 0 rfl rfl 3 (by decide) (hts (.fieldLink RX12 17 "MissedPointsModel" "pairs" "[I") (by decide +kernel)) (fun _ h9 => h9) rfl dX12_reckons_84 ?_
              refine lv_iload_n hx hb dX12_reckons_87 rfl (lv_at hl 1 rfl) ?_
              refine wk_aldA hx hb hK hP 2 0 rfl rfl (rg_in g45_l1 (by decide) (by decide)) dX12_reckons_88 (fun r1989 => ?_)
              refine lv_icmp_lt (tgt := 113) hx hb dX12_reckons_89 (by decide) (fun c1990 => ?_) (fun c1990 => ?_)
              · refine wk_iinc (lv' := fun r => [(4, .int r), (0, .ref (b 0)), (1, .int y9_l1), (2, .int y45_l2), (3, .int y45_l3)]) (e1 := 2) (f := 12) hx hb dX12_reckons_113 hl (k := 4) rfl (by decide) g1977 (by decide) (fun _ => rfl) (fun r1991 ls hr1991 er1991 hl => ?_)
                refine lv_goto (tgt := 45) hx hb dX12_reckons_116 (by decide) ?_
                exact ih45 y45_l2 y45_l3 r1991 v _ _ ls g45_l1 g45_l2 g45_l3 (show Rg 1 12 r1991 from rg_w hr1991 (by decide) (by decide)) hV hP hD hS (lv_sub (l' := [(0, .ref (b 0)), (1, .int y9_l1), (2, .int y45_l2), (3, .int y45_l3), (4, .int r1991)]) hl [1, 2, 3, 4, 0] rfl) (me_up hm45 er1991 (by decide))
              · refine lv_aload_n hx hb dX12_reckons_92 rfl (lv_at hl 0 rfl) ?_
                refine va_get (D := D) (ci := 12) (v := .ref (b 2)) (C := RX12) (T := TX12) (N := 24) hx hb hts hin12 hown hK hP 0 rfl rfl 3 (by decide) (hts (.fieldLink RX12 17 "MissedPointsModel" "pairs" "[I") (by decide +kernel)) (fun _ h9 => h9) rfl dX12_reckons_93 ?_
                refine lv_iload_n hx hb dX12_reckons_96 rfl (lv_at hl 1 rfl) ?_
                refine lv_aload_n hx hb dX12_reckons_97 rfl (lv_at hl 0 rfl) ?_
                refine va_get (D := D) (ci := 12) (v := .ref (b 2)) (C := RX12) (T := TX12) (N := 24) hx hb hts hin12 hown hK hP 0 rfl rfl 3 (by decide) (hts (.fieldLink RX12 17 "MissedPointsModel" "pairs" "[I") (by decide +kernel)) (fun _ h9 => h9) rfl dX12_reckons_98 ?_
                refine lv_iload_n hx hb dX12_reckons_101 rfl (lv_at hl 3 rfl) ?_
                refine lv_iconst (v := 1) hx hb dX12_reckons_102 (by decide) ?_
                refine lv_iload hx hb dX12_reckons_103 (lv_at hl 4 rfl) ?_
                refine wk_ishl1 (f := 2048) hx hb dX12_reckons_105 (show Rg 0 11 y45_l4 from rg_w g1977 (by decide) (by decide)) (by decide) (fun r1992 hr1992 qr1992 => ?_)
                refine lv_iconst (v := (-1)) hx hb dX12_reckons_106 (by decide) ?_
                refine lv_ixor hx hb dX12_reckons_107 ?_
                refine wk_topP (P := fun r => r = r1992 ^^^ ((-1) : Int32)) rfl (fun r1993 qr1993 => ?_)
                refine wk_iandl hx hb dX12_reckons_108 g45_l3 (by decide) (fun r1994 hr1994 qr1994 => ?_)
                refine wk_aldA hx hb hK hP 2 0 rfl rfl (rg_in hr1994 (by decide) (by decide)) dX12_reckons_109 (fun r1995 => ?_)
                refine lv_iconst (v := 1) hx hb dX12_reckons_110 (by decide) ?_
                refine lv_iadd hx hb dX12_reckons_111 ?_
                refine wk_topP (P := fun r => r = r1995 + (1 : Int32)) rfl (fun r1996 qr1996 => ?_)
                refine ms_2 hx hb hK hP hD hS hV rfl (rg_in g45_l1 (by decide) (by decide)) (wk_nz g45_l1 (by decide)) dX12_reckons_112 (fun v H locs hV ev1997 hP hD hS => ?_)
                refine wk_iinc (lv' := fun r => [(4, .int r), (0, .ref (b 0)), (1, .int y9_l1), (2, .int y45_l2), (3, .int y45_l3)]) (e1 := 2) (f := 12) hx hb dX12_reckons_113 hl (k := 4) rfl (by decide) g1977 (by decide) (fun _ => rfl) (fun r1998 ls hr1998 er1998 hl => ?_)
                refine lv_goto (tgt := 45) hx hb dX12_reckons_116 (by decide) ?_
                exact ih45 y45_l2 y45_l3 r1998 v _ _ ls g45_l1 g45_l2 g45_l3 (show Rg 1 12 r1998 from rg_w hr1998 (by decide) (by decide)) hV hP hD hS (lv_sub (l' := [(0, .ref (b 0)), (1, .int y9_l1), (2, .int y45_l2), (3, .int y45_l3), (4, .int r1998)]) hl [1, 2, 3, 4, 0] rfl) (me_up hm45 er1998 (by decide))
      refine lv_iload_n hx hb dX12_reckons_9 rfl (lv_at hl 1 rfl) ?_
      refine lv_aload_n hx hb dX12_reckons_10 rfl (lv_at hl 0 rfl) ?_
      refine wk_sv 0 (As := []) (rest := [.int y9_l1]) ⟨hx, hb, hml, hown, hts⟩ (w_X12_all l D cI cS b L v hL hV) hKK hP (ci := 12) rfl rfl (cwV 0 hts gX12_reckons_X12_all rfl rfl rfl (by decide +kernel) ⟨Nat.le_of_ble_eq_true rfl, Nat.le_of_ble_eq_true rfl⟩) rfl hl.1 rfl (Nat.le_of_ble_eq_true rfl) dX12_reckons_11 ⟨Nat.le_of_ble_eq_true rfl, Nat.le_of_ble_eq_true rfl⟩ (fun r1999 hr1999 => ?_)
      refine lv_icmp_gt (tgt := 238) hx hb dX12_reckons_14 (by decide) (fun c2000 => ?_) (fun c2000 => ?_)
      · subst hAe
        exact W.vret hx hb hr (fun t ht hW => ⟨⟨v, rfl, ⟨hV, trivial⟩, by rw [ht]; exact hP, hD⟩, hS.F ht⟩) hS.2.2 dX12_reckons_238
      · have g2001 : Rg 1 4095 r1999 := rg_ler g9_l1 hr1999.1 (rg_nlt c2000) (by decide)
        have g2002 : Rg 1 4095 y9_l1 := rg_lel g9_l1 hr1999.1 (rg_nlt c2000) (by decide)
        refine lv_iload_n hx hb dX12_reckons_17 rfl (lv_at hl 1 rfl) ?_
        refine lz_ss (As := [.int y9_l1]) (rest := []) ⟨hx, hb, hml, hown, hts⟩ (w_X12_first l D cI cS y9_l1 g2002) hKK (hP.sub (ws' := []) [] rfl) (va_cwS 1 hts gX12_reckons_X12_first rfl rfl rfl (by decide +kernel) ⟨Nat.le_of_ble_eq_true rfl, Nat.le_of_ble_eq_true rfl⟩) rfl hl.1 rfl (Nat.le_of_ble_eq_true rfl) dX12_reckons_18 ⟨Nat.le_of_ble_eq_true rfl, Nat.le_of_ble_eq_true rfl⟩ (fun r2003 hr2003 => ?_)
        refine lv_istore_n (lv' := [(2, .int r2003), (0, .ref (b 0)), (1, .int y9_l1)]) hx hb dX12_reckons_21 rfl hl (by decide) rfl (fun ls hl => ?_)
        refine lv_iload_n hx hb dX12_reckons_22 rfl (lv_at hl 2 rfl) ?_
        refine lv_iload_n hx hb dX12_reckons_23 rfl (lv_at hl 2 rfl) ?_
        refine lv_iconst (v := 1) hx hb dX12_reckons_24 (by decide) ?_
        refine wk_isub (e1 := 0) (f := 4094) hx hb dX12_reckons_25 g2002 (by decide : Rg 1 1 (1 : Int32)) (by decide) (fun r2004 hr2004 er2004 qr2004 => ?_)
        refine wk_iandr hx hb dX12_reckons_26 hr2004 (by decide) (fun r2005 hr2005 qr2005 => ?_)
        refine lv_istore_n (lv' := [(3, .int r2005), (2, .int r2003), (0, .ref (b 0)), (1, .int y9_l1)]) hx hb dX12_reckons_27 rfl hl (by decide) rfl (fun ls hl => ?_)
        refine lv_aload_n hx hb dX12_reckons_28 rfl (lv_at hl 2 rfl) ?_
        refine va_get (D := D) (ci := 12) (v := .ref (b 2)) (C := RX12) (T := TX12) (N := 24) hx hb hts hin12 hown hK hP 0 rfl rfl 3 (by decide) (hts (.fieldLink RX12 17 "MissedPointsModel" "pairs" "[I") (by decide +kernel)) (fun _ h9 => h9) rfl dX12_reckons_29 ?_
        refine lv_iload_n hx hb dX12_reckons_32 rfl (lv_at hl 3 rfl) ?_
        refine lv_aload_n hx hb dX12_reckons_33 rfl (lv_at hl 2 rfl) ?_
        refine va_get (D := D) (ci := 12) (v := .ref (b 2)) (C := RX12) (T := TX12) (N := 24) hx hb hts hin12 hown hK hP 0 rfl rfl 3 (by decide) (hts (.fieldLink RX12 17 "MissedPointsModel" "pairs" "[I") (by decide +kernel)) (fun _ h9 => h9) rfl dX12_reckons_34 ?_
        refine lv_iload_n hx hb dX12_reckons_37 rfl (lv_at hl 0 rfl) ?_
        refine wk_aldA hx hb hK hP 2 0 rfl rfl (rg_in hr2005 (by decide) (by decide)) dX12_reckons_38 (fun r2006 => ?_)
        refine ms_2 hx hb hK hP hD hS hV rfl (rg_in g2002 (by decide) (by decide)) (wk_nz g2002 (by decide)) dX12_reckons_39 (fun v H locs hV ev2007 hP hD hS => ?_)
        refine lv_iload_n hx hb dX12_reckons_40 rfl (lv_at hl 1 rfl) ?_
        refine lv_iconst (v := 1) hx hb dX12_reckons_41 (by decide) ?_
        refine wk_iadd (e1 := 1) (f := 12) hx hb dX12_reckons_42 hr2003.1 (by decide : Rg 1 1 (1 : Int32)) (by decide) (fun r2008 hr2008 er2008 qr2008 => ?_)
        refine lv_istore (lv' := [(4, .int r2008), (3, .int r2005), (2, .int r2003), (0, .ref (b 0)), (1, .int y9_l1)]) hx hb dX12_reckons_43 hl (by decide) rfl (fun ls hl => ?_)
        exact lp45 12 r2003 r2005 r2008 v _ _ ls g2002 hr2003.1 (show Rg 0 4095 r2005 from rg_w hr2005 (by decide) (by decide)) hr2008 hV hP hD hS (lv_sub (l' := [(0, .ref (b 0)), (1, .int y9_l1), (2, .int r2003), (3, .int r2005), (4, .int r2008)]) hl [3, 4, 2, 1, 0] rfl) (me_i hr2008 (by decide))
  refine lv_aload_n hx hb dX12_reckons_0 rfl (lv_at hl 0 rfl) ?_
  refine va_get (D := D) (ci := 12) (v := .ref (b 3)) (C := RX12) (T := TX12) (N := 24) hx hb hts hin12 hown hK hP 0 rfl rfl 4 (by decide) (hts (.fieldLink RX12 20 "MissedPointsModel" "greatestWays" "[I") (by decide +kernel)) (fun _ h9 => h9) rfl dX12_reckons_1 ?_
  refine lv_iconst (v := 0) hx hb dX12_reckons_4 (by decide) ?_
  refine lv_iconst (v := 1) hx hb dX12_reckons_5 (by decide) ?_
  refine ms_3 hx hb hK hP hD hS hV rfl (rg_in (by decide : Rg 0 0 (0 : Int32)) (by decide) (by decide)) dX12_reckons_6 (fun v H locs hV ev2009 hP hD hS => ?_)
  refine lv_iconst (v := 1) hx hb dX12_reckons_7 (by decide) ?_
  refine lv_istore_n (lv' := [(1, .int 1), (0, .ref (b 0))]) hx hb dX12_reckons_8 rfl hl (by decide) rfl (fun ls hl => ?_)
  exact lp9 4096 (1 : Int32) v _ _ ls (by decide : Rg 1 4096 (1 : Int32)) hV hP hD hS (lv_sub (l' := [(0, .ref (b 0)), (1, .int 1)]) hl [1, 0] rfl) (me_i (by decide : Rg 1 4096 (1 : Int32)) (by decide))
set_option maxHeartbeats 4000000 in
set_option maxRecDepth 100000 in
theorem w_X12_greatest (l : Launch) (D : va_G) (cI cS : ClassId) (sz : Nat) (b : Nat → Nat) (L v0 : SU) (hL : TyL L) (hV : TyV v0) : Met l yX12_greatest wsX12_greatest ({ frames := 3, cells := 0, slots := 0, locals := 120 }) (PQ D cI cS (wM cI b L v0) sz [.ref (b 0)]) (QF (S := SU) D (wM cI b L v0) (wM cI b L) sz (fun r u => TyV u ∧ Rg (-2147483648) 2147483647 r ∧ True)) 0 0 (va_A (wM cI b L v0) sz) := by
  refine Met.ofW (cc := cX12_greatest) (maxL := 1) (ret := (some .int)) (by decide) rfl ?_
  intro p e s m args below meth c s₁ B hml hv
  obtain ⟨rfl, hsz, hP, hKK, hD0⟩ := hv
  have hx := B.exec
  have hb := B.bytes
  have hr := B.returns
  have hts := atoms_spec (ws := wsX12_greatest) B.pre
  have hown : s.vm.findClass RX12 = some m.cls := findClass_of_methodNamed B.named
  have hlocks := B.notSynchronized
  have hK := hKK.1
  have hin12 : ∀ w ∈ wsX120, w ∈ wsX12_greatest := by decide +kernel
  subst hsz
  have hD := hD0.self (sz := s.heap.size)
  obtain ⟨A, hAe⟩ : ∃ A, A = va_A (wM cI b L v0) s.heap.size := ⟨_, rfl⟩
  rw [← hAe] at hD
  have hA : ∀ q : Nat, s.heap.size ≤ q → A q := fun q h => by rw [hAe]; exact Or.inr h
  have hS : va_S A s.heap s.heap [] := va_S.rf
  have hl := lv_entry ([.ref (b 0)]) (n := 1) (Nat.le_of_ble_eq_true rfl)
  rw [lg_entry_eq]
  generalize (lg_sl ([.ref (b 0)]) ++ List.replicate (1 - (lg_sl ([.ref (b 0)])).length) Slot.unset).toArray = ls at hl ⊢
  have hl : lv_has ls 1 [(0, .ref (b 0))] := hl
  obtain ⟨v, hv9⟩ : ∃ v : SU, v = v0 := ⟨_, rfl⟩
  rw [← hv9] at hP hD hV
  refine lv_aload_n hx hb dX12_greatest_0 rfl (lv_at hl 0 rfl) ?_
  refine wk_qv (wM cI b L) v (As := []) (rest := []) ⟨hx, hb, hml, hown, hts⟩ (w_X12_reckons l D cI cS _ b L v hL hV) hKK hP hD hS hA 0 (ci := 12) rfl rfl (cwV 0 hts gX12_greatest_X12_reckons rfl rfl rfl (by decide +kernel) ⟨Nat.le_of_ble_eq_true rfl, Nat.le_of_ble_eq_true rfl⟩) rfl hl.1 rfl (Nat.le_of_ble_eq_true rfl) dX12_greatest_1 ⟨Nat.le_of_ble_eq_true rfl, Nat.le_of_ble_eq_true rfl⟩ (fun v H locs hr2013 hP hD hS => ?_)
  have hV := hr2013.1
  refine lv_aload_n hx hb dX12_greatest_4 rfl (lv_at hl 0 rfl) ?_
  refine va_get (D := D) (ci := 12) (v := .ref (b 2)) (C := RX12) (T := TX12) (N := 24) hx hb hts hin12 hown hK hP 0 rfl rfl 3 (by decide) (hts (.fieldLink RX12 17 "MissedPointsModel" "pairs" "[I") (by decide +kernel)) (fun _ h9 => h9) rfl dX12_greatest_5 ?_
  refine lv_aload_n hx hb dX12_greatest_8 rfl (lv_at hl 0 rfl) ?_
  refine wk_sv 0 (As := []) (rest := [.ref (b 2)]) ⟨hx, hb, hml, hown, hts⟩ (w_X12_all l D cI cS b L v hL hV) hKK hP (ci := 12) rfl rfl (cwV 0 hts gX12_greatest_X12_all rfl rfl rfl (by decide +kernel) ⟨Nat.le_of_ble_eq_true rfl, Nat.le_of_ble_eq_true rfl⟩) rfl hl.1 rfl (Nat.le_of_ble_eq_true rfl) dX12_greatest_9 ⟨Nat.le_of_ble_eq_true rfl, Nat.le_of_ble_eq_true rfl⟩ (fun r2014 hr2014 => ?_)
  refine wk_aldA hx hb hK hP 2 0 rfl rfl (rg_in hr2014.1 (by decide) (by decide)) dX12_greatest_12 (fun r2015 => ?_)
  subst hAe
  exact W.iret (v := r2015) hx hb hr (fun t ht hW => ⟨⟨_, v, rfl, ⟨hV, (rg_any r2015), trivial⟩, by rw [ht]; exact hP, hD⟩, hS.F ht⟩) hS.2.2 dX12_greatest_13
set_option maxHeartbeats 4000000 in
set_option maxRecDepth 100000 in
theorem w_X12_lack (l : Launch) (D : va_G) (cI cS : ClassId) (sz : Nat) (b : Nat → Nat) (L v0 : SU) (hL : TyL L) (hV : TyV v0) : Met l yX12_lack wsX12_lack ({ frames := 4, cells := 0, slots := 0, locals := 160 }) (PQ D cI cS (wM cI b L v0) sz [.ref (b 0)]) (QF (S := SU) D (wM cI b L v0) (wM cI b L) sz (fun r u => TyV u ∧ Rg (-2147483648) 2147483647 r ∧ True)) 0 0 (va_A (wM cI b L v0) sz) := by
  refine Met.ofW (cc := cX12_lack) (maxL := 1) (ret := (some .int)) (by decide) rfl ?_
  intro p e s m args below meth c s₁ B hml hv
  obtain ⟨rfl, hsz, hP, hKK, hD0⟩ := hv
  have hx := B.exec
  have hb := B.bytes
  have hr := B.returns
  have hts := atoms_spec (ws := wsX12_lack) B.pre
  have hown : s.vm.findClass RX12 = some m.cls := findClass_of_methodNamed B.named
  have hlocks := B.notSynchronized
  have hK := hKK.1
  have hin12 : ∀ w ∈ wsX120, w ∈ wsX12_lack := by decide +kernel
  subst hsz
  have hD := hD0.self (sz := s.heap.size)
  obtain ⟨A, hAe⟩ : ∃ A, A = va_A (wM cI b L v0) s.heap.size := ⟨_, rfl⟩
  rw [← hAe] at hD
  have hA : ∀ q : Nat, s.heap.size ≤ q → A q := fun q h => by rw [hAe]; exact Or.inr h
  have hS : va_S A s.heap s.heap [] := va_S.rf
  have hl := lv_entry ([.ref (b 0)]) (n := 1) (Nat.le_of_ble_eq_true rfl)
  rw [lg_entry_eq]
  generalize (lg_sl ([.ref (b 0)]) ++ List.replicate (1 - (lg_sl ([.ref (b 0)])).length) Slot.unset).toArray = ls at hl ⊢
  have hl : lv_has ls 1 [(0, .ref (b 0))] := hl
  obtain ⟨v, hv9⟩ : ∃ v : SU, v = v0 := ⟨_, rfl⟩
  rw [← hv9] at hP hD hV
  refine lv_aload_n hx hb dX12_lack_0 rfl (lv_at hl 0 rfl) ?_
  refine va_get (D := D) (ci := 12) (v := .int (L 0 0)) (C := RX12) (T := TX12) (N := 24) hx hb hts hin12 hown hK hP 0 rfl rfl 0 (by decide) (hts (.fieldLink RX12 63 "MissedPointsModel" "many" "I") (by decide +kernel)) (fun _ h9 => h9) rfl dX12_lack_1 ?_
  refine lv_iconst (v := 2) hx hb dX12_lack_4 (by decide) ?_
  refine lv_aload_n hx hb dX12_lack_5 rfl (lv_at hl 0 rfl) ?_
  refine wk_qi (wM cI b L) v (As := []) (rest := [.int 2, .int (L 0 0)]) ⟨hx, hb, hml, hown, hts⟩ (w_X12_greatest l D cI cS _ b L v hL hV) hKK hP hD hS hA 0 (ci := 12) rfl rfl (cwV 0 hts gX12_lack_X12_greatest rfl rfl rfl (by decide +kernel) ⟨Nat.le_of_ble_eq_true rfl, Nat.le_of_ble_eq_true rfl⟩) rfl hl.1 rfl (Nat.le_of_ble_eq_true rfl) dX12_lack_6 ⟨Nat.le_of_ble_eq_true rfl, Nat.le_of_ble_eq_true rfl⟩ (fun r2019 v H locs hr2019 hP hD hS => ?_)
  have hV := hr2019.1
  refine lv_imul hx hb dX12_lack_9 ?_
  refine wk_topP (P := fun r => r = (2 : Int32) * r2019) rfl (fun r2020 qr2020 => ?_)
  refine lv_isub hx hb dX12_lack_10 ?_
  refine wk_topP (P := fun r => r = (L 0 0) - r2020) rfl (fun r2021 qr2021 => ?_)
  subst hAe
  exact W.iret (v := r2021) hx hb hr (fun t ht hW => ⟨⟨_, v, rfl, ⟨hV, (rg_any r2021), trivial⟩, by rw [ht]; exact hP, hD⟩, hS.F ht⟩) hS.2.2 dX12_lack_11
set_option maxHeartbeats 4000000 in
set_option maxRecDepth 100000 in
theorem w_X12_most (l : Launch) (D : va_G) (cI cS : ClassId) (sz : Nat) (b : Nat → Nat) (L v0 : SU) (hL : TyL L) (hV : TyV v0) (x0 : Int32) : Met l yX12_most wsX12_most ({ frames := 3, cells := 0, slots := 0, locals := 120 }) (PQ D cI cS (wM cI b L v0) sz [.ref (b 0), .int x0]) (QF (S := SU) D (wM cI b L v0) (wM cI b L) sz (fun r u => TyV u ∧ Rg (-2147483648) 2147483647 r ∧ True)) 0 0 (va_A (wM cI b L v0) sz) := by
  refine Met.ofW (cc := cX12_most) (maxL := 2) (ret := (some .int)) (by decide) rfl ?_
  intro p e s m args below meth c s₁ B hml hv
  obtain ⟨rfl, hsz, hP, hKK, hD0⟩ := hv
  have hx := B.exec
  have hb := B.bytes
  have hr := B.returns
  have hts := atoms_spec (ws := wsX12_most) B.pre
  have hown : s.vm.findClass RX12 = some m.cls := findClass_of_methodNamed B.named
  have hlocks := B.notSynchronized
  have hK := hKK.1
  have hin12 : ∀ w ∈ wsX120, w ∈ wsX12_most := by decide +kernel
  subst hsz
  have hD := hD0.self (sz := s.heap.size)
  obtain ⟨A, hAe⟩ : ∃ A, A = va_A (wM cI b L v0) s.heap.size := ⟨_, rfl⟩
  rw [← hAe] at hD
  have hA : ∀ q : Nat, s.heap.size ≤ q → A q := fun q h => by rw [hAe]; exact Or.inr h
  have hS : va_S A s.heap s.heap [] := va_S.rf
  have hl := lv_entry ([.ref (b 0), .int x0]) (n := 2) (Nat.le_of_ble_eq_true rfl)
  rw [lg_entry_eq]
  generalize (lg_sl ([.ref (b 0), .int x0]) ++ List.replicate (2 - (lg_sl ([.ref (b 0), .int x0])).length) Slot.unset).toArray = ls at hl ⊢
  have hl : lv_has ls 2 [(0, .ref (b 0)), (1, .int x0)] := hl
  obtain ⟨v, hv9⟩ : ∃ v : SU, v = v0 := ⟨_, rfl⟩
  rw [← hv9] at hP hD hV
  refine lv_aload_n hx hb dX12_most_0 rfl (lv_at hl 0 rfl) ?_
  refine lv_iload_n hx hb dX12_most_1 rfl (lv_at hl 1 rfl) ?_
  refine wk_sv 0 (As := [.int x0]) (rest := []) ⟨hx, hb, hml, hown, hts⟩ (w_X12_isSet l D cI cS b L v hL hV x0) hKK hP (ci := 12) rfl rfl (cwV 1 hts gX12_most_X12_isSet rfl rfl rfl (by decide +kernel) ⟨Nat.le_of_ble_eq_true rfl, Nat.le_of_ble_eq_true rfl⟩) rfl hl.1 rfl (Nat.le_of_ble_eq_true rfl) dX12_most_2 ⟨Nat.le_of_ble_eq_true rfl, Nat.le_of_ble_eq_true rfl⟩ (fun r2029 hr2029 => ?_)
  refine lv_if_ne (tgt := 11) hx hb dX12_most_5 (by decide) (fun c2030 => ?_) (fun c2030 => ?_)
  · have g2031 : Rg 0 4095 x0 := (hr2029.2.1 c2030)
    have g2032 : Rg 1 1 r2029 := rg_ne_lo (k := 0) hr2029.1 (by decide) c2030 (by decide)
    refine lv_aload_n hx hb dX12_most_11 rfl (lv_at hl 0 rfl) ?_
    refine wk_qv (wM cI b L) v (As := []) (rest := []) ⟨hx, hb, hml, hown, hts⟩ (w_X12_reckons l D cI cS _ b L v hL hV) hKK hP hD hS hA 0 (ci := 12) rfl rfl (cwV 0 hts gX12_most_X12_reckons rfl rfl rfl (by decide +kernel) ⟨Nat.le_of_ble_eq_true rfl, Nat.le_of_ble_eq_true rfl⟩) rfl hl.1 rfl (Nat.le_of_ble_eq_true rfl) dX12_most_12 ⟨Nat.le_of_ble_eq_true rfl, Nat.le_of_ble_eq_true rfl⟩ (fun v H locs hr2033 hP hD hS => ?_)
    have hV := hr2033.1
    refine lv_aload_n hx hb dX12_most_15 rfl (lv_at hl 0 rfl) ?_
    refine va_get (D := D) (ci := 12) (v := .ref (b 2)) (C := RX12) (T := TX12) (N := 24) hx hb hts hin12 hown hK hP 0 rfl rfl 3 (by decide) (hts (.fieldLink RX12 17 "MissedPointsModel" "pairs" "[I") (by decide +kernel)) (fun _ h9 => h9) rfl dX12_most_16 ?_
    refine lv_iload_n hx hb dX12_most_19 rfl (lv_at hl 1 rfl) ?_
    refine wk_aldA hx hb hK hP 2 0 rfl rfl (rg_in g2031 (by decide) (by decide)) dX12_most_20 (fun r2034 => ?_)
    subst hAe
    exact W.iret (v := r2034) hx hb hr (fun t ht hW => ⟨⟨_, v, rfl, ⟨hV, (rg_any r2034), trivial⟩, by rw [ht]; exact hP, hD⟩, hS.F ht⟩) hS.2.2 dX12_most_21
  · have g2035 : Rg 0 0 r2029 := wk_eql hr2029.1 (by decide : Rg 0 0 (0 : Int32)) c2030 (by decide)
    refine lv_bipush (v := (-2)) hx hb dX12_most_8 (by decide) ?_
    subst hAe
    exact W.iret (v := (-2)) hx hb hr (fun t ht hW => ⟨⟨_, v, rfl, ⟨hV, (by decide : Rg (-2147483648) 2147483647 ((-2) : Int32)), trivial⟩, by rw [ht]; exact hP, hD⟩, hS.F ht⟩) hS.2.2 dX12_most_10
set_option maxRecDepth 20000 in
theorem ggX12_firstMate_X12_first : GoodIn wsX12_firstMate wsX12_first := goodIn_r _ [7, 8, 9, 6, 10] rfl (by decide +kernel)
set_option maxRecDepth 20000 in
theorem gX12_firstMate_X12_first : GoodIn wsX12_firstMate (va_wsS RX12 104 yX12_first wsX12_first) := goodIn_app (goodIn_of _ (by decide +kernel)) ggX12_firstMate_X12_first
set_option maxRecDepth 20000 in
theorem ggX12_firstMate_X12_has : GoodIn wsX12_firstMate wsX12_has := goodIn_r _ [10] rfl (by decide +kernel)
set_option maxRecDepth 20000 in
theorem gX12_firstMate_X12_has : GoodIn wsX12_firstMate (va_wsS RX12 59 yX12_has wsX12_has) := goodIn_app (goodIn_of _ (by decide +kernel)) ggX12_firstMate_X12_has
theorem dX12_firstMate_0 : decode cX12_firstMate 0 = .ok (.iload_n 1, 1) := by decide +kernel
theorem dX12_firstMate_1 : decode cX12_firstMate 1 = .ok (.invokestatic 104, 3) := by decide +kernel
theorem dX12_firstMate_10 : decode cX12_firstMate 10 = .ok (.istore_n 3, 1) := by decide +kernel
theorem dX12_firstMate_11 : decode cX12_firstMate 11 = .ok (.iload_n 2, 1) := by decide +kernel
theorem dX12_firstMate_12 : decode cX12_firstMate 12 = .ok (.iconst 1, 1) := by decide +kernel
theorem dX12_firstMate_13 : decode cX12_firstMate 13 = .ok (.iadd, 1) := by decide +kernel
theorem dX12_firstMate_14 : decode cX12_firstMate 14 = .ok (.istore 4, 2) := by decide +kernel
theorem dX12_firstMate_16 : decode cX12_firstMate 16 = .ok (.iload 4, 2) := by decide +kernel
theorem dX12_firstMate_18 : decode cX12_firstMate 18 = .ok (.aload_n 0, 1) := by decide +kernel
theorem dX12_firstMate_19 : decode cX12_firstMate 19 = .ok (.getfield 63, 3) := by decide +kernel
theorem dX12_firstMate_22 : decode cX12_firstMate 22 = .ok (.if_icmp .ge 52, 3) := by decide +kernel
theorem dX12_firstMate_25 : decode cX12_firstMate 25 = .ok (.iload_n 3, 1) := by decide +kernel
theorem dX12_firstMate_26 : decode cX12_firstMate 26 = .ok (.aload_n 0, 1) := by decide +kernel
theorem dX12_firstMate_27 : decode cX12_firstMate 27 = .ok (.getfield 13, 3) := by decide +kernel
theorem dX12_firstMate_30 : decode cX12_firstMate 30 = .ok (.iload_n 2, 1) := by decide +kernel
theorem dX12_firstMate_31 : decode cX12_firstMate 31 = .ok (.iaload, 1) := by decide +kernel
theorem dX12_firstMate_32 : decode cX12_firstMate 32 = .ok (.iand, 1) := by decide +kernel
theorem dX12_firstMate_33 : decode cX12_firstMate 33 = .ok (.iload 4, 2) := by decide +kernel
theorem dX12_firstMate_35 : decode cX12_firstMate 35 = .ok (.invokestatic 59, 3) := by decide +kernel
theorem dX12_firstMate_38 : decode cX12_firstMate 38 = .ok (.ifCond .eq 30, 3) := by decide +kernel
theorem dX12_firstMate_4 : decode cX12_firstMate 4 = .ok (.istore_n 2, 1) := by decide +kernel
theorem dX12_firstMate_41 : decode cX12_firstMate 41 = .ok (.aload_n 0, 1) := by decide +kernel
theorem dX12_firstMate_42 : decode cX12_firstMate 42 = .ok (.getfield 17, 3) := by decide +kernel
theorem dX12_firstMate_45 : decode cX12_firstMate 45 = .ok (.iload_n 3, 1) := by decide +kernel
theorem dX12_firstMate_46 : decode cX12_firstMate 46 = .ok (.iconst 1, 1) := by decide +kernel
theorem dX12_firstMate_47 : decode cX12_firstMate 47 = .ok (.iload 4, 2) := by decide +kernel
theorem dX12_firstMate_49 : decode cX12_firstMate 49 = .ok (.ishl, 1) := by decide +kernel
theorem dX12_firstMate_5 : decode cX12_firstMate 5 = .ok (.iload_n 1, 1) := by decide +kernel
theorem dX12_firstMate_50 : decode cX12_firstMate 50 = .ok (.iconst (-1), 1) := by decide +kernel
theorem dX12_firstMate_51 : decode cX12_firstMate 51 = .ok (.ixor, 1) := by decide +kernel
theorem dX12_firstMate_52 : decode cX12_firstMate 52 = .ok (.iand, 1) := by decide +kernel
theorem dX12_firstMate_53 : decode cX12_firstMate 53 = .ok (.iaload, 1) := by decide +kernel
theorem dX12_firstMate_54 : decode cX12_firstMate 54 = .ok (.iconst 1, 1) := by decide +kernel
theorem dX12_firstMate_55 : decode cX12_firstMate 55 = .ok (.iadd, 1) := by decide +kernel
theorem dX12_firstMate_56 : decode cX12_firstMate 56 = .ok (.aload_n 0, 1) := by decide +kernel
theorem dX12_firstMate_57 : decode cX12_firstMate 57 = .ok (.getfield 17, 3) := by decide +kernel
theorem dX12_firstMate_6 : decode cX12_firstMate 6 = .ok (.iload_n 1, 1) := by decide +kernel
theorem dX12_firstMate_60 : decode cX12_firstMate 60 = .ok (.iload_n 1, 1) := by decide +kernel
theorem dX12_firstMate_61 : decode cX12_firstMate 61 = .ok (.iaload, 1) := by decide +kernel
theorem dX12_firstMate_62 : decode cX12_firstMate 62 = .ok (.if_icmp .ne 6, 3) := by decide +kernel
theorem dX12_firstMate_65 : decode cX12_firstMate 65 = .ok (.iload 4, 2) := by decide +kernel
theorem dX12_firstMate_67 : decode cX12_firstMate 67 = .ok (.ireturn, 1) := by decide +kernel
theorem dX12_firstMate_68 : decode cX12_firstMate 68 = .ok (.iinc 4 1, 3) := by decide +kernel
theorem dX12_firstMate_7 : decode cX12_firstMate 7 = .ok (.iconst 1, 1) := by decide +kernel
theorem dX12_firstMate_71 : decode cX12_firstMate 71 = .ok (.goto (-55), 3) := by decide +kernel
theorem dX12_firstMate_74 : decode cX12_firstMate 74 = .ok (.iconst (-1), 1) := by decide +kernel
theorem dX12_firstMate_75 : decode cX12_firstMate 75 = .ok (.ireturn, 1) := by decide +kernel
theorem dX12_firstMate_8 : decode cX12_firstMate 8 = .ok (.isub, 1) := by decide +kernel
theorem dX12_firstMate_9 : decode cX12_firstMate 9 = .ok (.iand, 1) := by decide +kernel
set_option maxHeartbeats 4000000 in
set_option maxRecDepth 100000 in
theorem w_X12_firstMate (l : Launch) (D : va_G) (cI cS : ClassId) (b : Nat → Nat) (L v : SU) (hL : TyL L) (hV : TyV v) (x0 : Int32) (px0 : Rg 1 4095 x0) : Met l yX12_firstMate wsX12_firstMate ({ frames := 2, cells := 0, slots := 0, locals := 80 }) (PS D cI cS (wM cI b L v) [.ref (b 0), .int x0]) (vp_Si (fun r => Rg (-1) 11 r ∧ True)) 0 0 (fun _ => False) := by
  refine Met.ofW (cc := cX12_firstMate) (maxL := 5) (ret := (some .int)) (by decide) rfl ?_
  intro p e s m args below meth c s₁ B hml hv
  obtain ⟨rfl, hP, hKK⟩ := hv
  have hx := B.exec
  have hb := B.bytes
  have hr := B.returns
  have hts := atoms_spec (ws := wsX12_firstMate) B.pre
  have hown : s.vm.findClass RX12 = some m.cls := findClass_of_methodNamed B.named
  have hlocks := B.notSynchronized
  have hK := hKK.1
  have hin12 : ∀ w ∈ wsX120, w ∈ wsX12_firstMate := by decide +kernel
  have hl := lv_entry ([.ref (b 0), .int x0]) (n := 5) (Nat.le_of_ble_eq_true rfl)
  rw [lg_entry_eq]
  generalize (lg_sl ([.ref (b 0), .int x0]) ++ List.replicate (5 - (lg_sl ([.ref (b 0), .int x0])).length) Slot.unset).toArray = ls at hl ⊢
  have hl : lv_has ls 5 [(0, .ref (b 0)), (1, .int x0)] := hl
  have lp16 : ∀ (n16 : Nat) (y16_l2 : Int32) (y16_l3 : Int32) (y16_l4 : Int32) (ls : Array Slot), Rg 1 4095 x0 → Rg 0 11 y16_l2 → Rg 0 4094 y16_l3 → Rg 1 12 y16_l4 → lv_has ls 5 [(0, .ref (b 0)), (1, .int x0), (2, .int y16_l2), (3, .int y16_l3), (4, .int y16_l4)] → 12 - y16_l4.toInt < (n16 : Int) → W p l e (headSpec wsX12_firstMate ({ frames := 2, cells := 0, slots := 0, locals := 80 })).room s m ([.ref (b 0), .int x0]).toArray below meth c s.heap [] 0 0 (MQ below (vp_Si (fun r => Rg (-1) 11 r ∧ True)) ([.ref (b 0), .int x0]).toArray s 0 0 (fun _ => False)) (F0 m 16 ls []) := by
    intro n16
    induction n16 with
    | zero =>
      intro y16_l2 y16_l3 y16_l4 ls g16_l1 g16_l2 g16_l3 g16_l4 hl hm16
      exact absurd rfl (me_z g16_l4 hm16)
    | succ n16 ih16 =>
      intro y16_l2 y16_l3 y16_l4 ls g16_l1 g16_l2 g16_l3 g16_l4 hl hm16
      refine lv_iload hx hb dX12_firstMate_16 (lv_at hl 4 rfl) ?_
      refine lv_aload_n hx hb dX12_firstMate_18 rfl (lv_at hl 0 rfl) ?_
      refine va_get (D := D) (ci := 12) (v := .int (L 0 0)) (C := RX12) (T := TX12) (N := 24) hx hb hts hin12 hown hK hP 0 rfl rfl 0 (by decide) (hts (.fieldLink RX12 63 "MissedPointsModel" "many" "I") (by decide +kernel)) (fun _ h9 => h9) rfl dX12_firstMate_19 ?_
      refine lv_icmp_ge (tgt := 74) hx hb dX12_firstMate_22 (by decide) (fun c2080 => ?_) (fun c2080 => ?_)
      · refine lv_iconst (v := (-1)) hx hb dX12_firstMate_74 (by decide) ?_
        exact W.iret (v := (-1)) hx hb hr (fun t ht hW => ⟨_, rfl, ⟨(by decide : Rg (-1) 11 ((-1) : Int32)), trivial⟩, ht⟩) (fun q hq => absurd hq List.not_mem_nil) dX12_firstMate_75
      · have g2081 : Rg 2 12 (L 0 0) := rg_ltr g16_l4 hL.1 (rg_nle c2080) (by decide)
        have g2082 : Rg 1 11 y16_l4 := rg_ltl g16_l4 hL.1 (rg_nle c2080) (by decide)
        refine lv_iload_n hx hb dX12_firstMate_25 rfl (lv_at hl 3 rfl) ?_
        refine lv_aload_n hx hb dX12_firstMate_26 rfl (lv_at hl 0 rfl) ?_
        refine va_get (D := D) (ci := 12) (v := .ref (b 1)) (C := RX12) (T := TX12) (N := 24) hx hb hts hin12 hown hK hP 0 rfl rfl 2 (by decide) (hts (.fieldLink RX12 13 "MissedPointsModel" "near" "[I") (by decide +kernel)) (fun _ h9 => h9) rfl dX12_firstMate_27 ?_
        refine lv_iload_n hx hb dX12_firstMate_30 rfl (lv_at hl 2 rfl) ?_
        refine wk_ald hx hb hK hP 1 0 rfl rfl (rg_in g16_l2 (by decide) (by decide)) dX12_firstMate_31 hV.1 (fun r2083 hr2083 => ?_)
        refine wk_iandl hx hb dX12_firstMate_32 g16_l3 (by decide) (fun r2084 hr2084 qr2084 => ?_)
        refine lv_iload hx hb dX12_firstMate_33 (lv_at hl 4 rfl) ?_
        refine lz_ss (As := [.int r2084, .int y16_l4]) (rest := []) ⟨hx, hb, hml, hown, hts⟩ (w_X12_has l D cI cS r2084 y16_l4) hKK (hP.sub (ws' := []) [] rfl) (va_cwS 2 hts gX12_firstMate_X12_has rfl rfl rfl (by decide +kernel) ⟨Nat.le_of_ble_eq_true rfl, Nat.le_of_ble_eq_true rfl⟩) rfl hl.1 rfl (Nat.le_of_ble_eq_true rfl) dX12_firstMate_35 ⟨Nat.le_of_ble_eq_true rfl, Nat.le_of_ble_eq_true rfl⟩ (fun r2085 hr2085 => ?_)
        refine lv_if_eq (tgt := 68) hx hb dX12_firstMate_38 (by decide) (fun c2086 => ?_) (fun c2086 => ?_)
        · have g2087 : Rg 0 0 r2085 := wk_eql hr2085.1 (by decide : Rg 0 0 (0 : Int32)) c2086 (by decide)
          refine wk_iinc (lv' := fun r => [(4, .int r), (0, .ref (b 0)), (1, .int x0), (2, .int y16_l2), (3, .int y16_l3)]) (e1 := 2) (f := 12) hx hb dX12_firstMate_68 hl (k := 4) rfl (by decide) g2082 (by decide) (fun _ => rfl) (fun r2088 ls hr2088 er2088 hl => ?_)
          refine lv_goto (tgt := 16) hx hb dX12_firstMate_71 (by decide) ?_
          exact ih16 y16_l2 y16_l3 r2088 ls g16_l1 g16_l2 g16_l3 (show Rg 1 12 r2088 from rg_w hr2088 (by decide) (by decide)) (lv_sub (l' := [(0, .ref (b 0)), (1, .int x0), (2, .int y16_l2), (3, .int y16_l3), (4, .int r2088)]) hl [1, 2, 3, 4, 0] rfl) (me_up hm16 er2088 (by decide))
        · have g2089 : Rg 1 1 r2085 := rg_ne_lo (k := 0) hr2085.1 (by decide) c2086 (by decide)
          refine lv_aload_n hx hb dX12_firstMate_41 rfl (lv_at hl 0 rfl) ?_
          refine va_get (D := D) (ci := 12) (v := .ref (b 2)) (C := RX12) (T := TX12) (N := 24) hx hb hts hin12 hown hK hP 0 rfl rfl 3 (by decide) (hts (.fieldLink RX12 17 "MissedPointsModel" "pairs" "[I") (by decide +kernel)) (fun _ h9 => h9) rfl dX12_firstMate_42 ?_
          refine lv_iload_n hx hb dX12_firstMate_45 rfl (lv_at hl 3 rfl) ?_
          refine lv_iconst (v := 1) hx hb dX12_firstMate_46 (by decide) ?_
          refine lv_iload hx hb dX12_firstMate_47 (lv_at hl 4 rfl) ?_
          refine wk_ishl1 (f := 2048) hx hb dX12_firstMate_49 (show Rg 0 11 y16_l4 from rg_w g2082 (by decide) (by decide)) (by decide) (fun r2090 hr2090 qr2090 => ?_)
          refine lv_iconst (v := (-1)) hx hb dX12_firstMate_50 (by decide) ?_
          refine lv_ixor hx hb dX12_firstMate_51 ?_
          refine wk_topP (P := fun r => r = r2090 ^^^ ((-1) : Int32)) rfl (fun r2091 qr2091 => ?_)
          refine wk_iandl hx hb dX12_firstMate_52 g16_l3 (by decide) (fun r2092 hr2092 qr2092 => ?_)
          refine wk_aldA hx hb hK hP 2 0 rfl rfl (rg_in hr2092 (by decide) (by decide)) dX12_firstMate_53 (fun r2093 => ?_)
          refine lv_iconst (v := 1) hx hb dX12_firstMate_54 (by decide) ?_
          refine lv_iadd hx hb dX12_firstMate_55 ?_
          refine wk_topP (P := fun r => r = r2093 + (1 : Int32)) rfl (fun r2094 qr2094 => ?_)
          refine lv_aload_n hx hb dX12_firstMate_56 rfl (lv_at hl 0 rfl) ?_
          refine va_get (D := D) (ci := 12) (v := .ref (b 2)) (C := RX12) (T := TX12) (N := 24) hx hb hts hin12 hown hK hP 0 rfl rfl 3 (by decide) (hts (.fieldLink RX12 17 "MissedPointsModel" "pairs" "[I") (by decide +kernel)) (fun _ h9 => h9) rfl dX12_firstMate_57 ?_
          refine lv_iload_n hx hb dX12_firstMate_60 rfl (lv_at hl 1 rfl) ?_
          refine wk_aldA hx hb hK hP 2 0 rfl rfl (rg_in g16_l1 (by decide) (by decide)) dX12_firstMate_61 (fun r2095 => ?_)
          refine lv_icmp_ne (tgt := 68) hx hb dX12_firstMate_62 (by decide) (fun c2096 => ?_) (fun c2096 => ?_)
          · refine wk_iinc (lv' := fun r => [(4, .int r), (0, .ref (b 0)), (1, .int x0), (2, .int y16_l2), (3, .int y16_l3)]) (e1 := 2) (f := 12) hx hb dX12_firstMate_68 hl (k := 4) rfl (by decide) g2082 (by decide) (fun _ => rfl) (fun r2097 ls hr2097 er2097 hl => ?_)
            refine lv_goto (tgt := 16) hx hb dX12_firstMate_71 (by decide) ?_
            exact ih16 y16_l2 y16_l3 r2097 ls g16_l1 g16_l2 g16_l3 (show Rg 1 12 r2097 from rg_w hr2097 (by decide) (by decide)) (lv_sub (l' := [(0, .ref (b 0)), (1, .int x0), (2, .int y16_l2), (3, .int y16_l3), (4, .int r2097)]) hl [1, 2, 3, 4, 0] rfl) (me_up hm16 er2097 (by decide))
          · refine lv_iload hx hb dX12_firstMate_65 (lv_at hl 4 rfl) ?_
            exact W.iret (v := y16_l4) hx hb hr (fun t ht hW => ⟨_, rfl, ⟨(show Rg (-1) 11 y16_l4 from rg_w g2082 (by decide) (by decide)), trivial⟩, ht⟩) (fun q hq => absurd hq List.not_mem_nil) dX12_firstMate_67
  refine lv_iload_n hx hb dX12_firstMate_0 rfl (lv_at hl 1 rfl) ?_
  refine lz_ss (As := [.int x0]) (rest := []) ⟨hx, hb, hml, hown, hts⟩ (w_X12_first l D cI cS x0 px0) hKK (hP.sub (ws' := []) [] rfl) (va_cwS 1 hts gX12_firstMate_X12_first rfl rfl rfl (by decide +kernel) ⟨Nat.le_of_ble_eq_true rfl, Nat.le_of_ble_eq_true rfl⟩) rfl hl.1 rfl (Nat.le_of_ble_eq_true rfl) dX12_firstMate_1 ⟨Nat.le_of_ble_eq_true rfl, Nat.le_of_ble_eq_true rfl⟩ (fun r2098 hr2098 => ?_)
  refine lv_istore_n (lv' := [(2, .int r2098), (0, .ref (b 0)), (1, .int x0)]) hx hb dX12_firstMate_4 rfl hl (by decide) rfl (fun ls hl => ?_)
  refine lv_iload_n hx hb dX12_firstMate_5 rfl (lv_at hl 2 rfl) ?_
  refine lv_iload_n hx hb dX12_firstMate_6 rfl (lv_at hl 2 rfl) ?_
  refine lv_iconst (v := 1) hx hb dX12_firstMate_7 (by decide) ?_
  refine wk_isub (e1 := 0) (f := 4094) hx hb dX12_firstMate_8 px0 (by decide : Rg 1 1 (1 : Int32)) (by decide) (fun r2099 hr2099 er2099 qr2099 => ?_)
  refine wk_iandr hx hb dX12_firstMate_9 hr2099 (by decide) (fun r2100 hr2100 qr2100 => ?_)
  refine lv_istore_n (lv' := [(3, .int r2100), (2, .int r2098), (0, .ref (b 0)), (1, .int x0)]) hx hb dX12_firstMate_10 rfl hl (by decide) rfl (fun ls hl => ?_)
  refine lv_iload_n hx hb dX12_firstMate_11 rfl (lv_at hl 1 rfl) ?_
  refine lv_iconst (v := 1) hx hb dX12_firstMate_12 (by decide) ?_
  refine wk_iadd (e1 := 1) (f := 12) hx hb dX12_firstMate_13 hr2098.1 (by decide : Rg 1 1 (1 : Int32)) (by decide) (fun r2101 hr2101 er2101 qr2101 => ?_)
  refine lv_istore (lv' := [(4, .int r2101), (3, .int r2100), (2, .int r2098), (0, .ref (b 0)), (1, .int x0)]) hx hb dX12_firstMate_14 hl (by decide) rfl (fun ls hl => ?_)
  exact lp16 12 r2098 r2100 r2101 ls px0 hr2098.1 hr2100 hr2101 (lv_sub (l' := [(0, .ref (b 0)), (1, .int x0), (2, .int r2098), (3, .int r2100), (4, .int r2101)]) hl [3, 4, 2, 1, 0] rfl) (me_i hr2101 (by decide))
set_option maxRecDepth 20000 in
theorem ggX12_laysMates_X12_first : GoodIn wsX12_laysMates wsX12_first := goodIn_r _ [17, 18, 19, 5, 20] rfl (by decide +kernel)
set_option maxRecDepth 20000 in
theorem gX12_laysMates_X12_first : GoodIn wsX12_laysMates (va_wsS RX12 104 yX12_first wsX12_first) := goodIn_app (goodIn_of _ (by decide +kernel)) ggX12_laysMates_X12_first
set_option maxRecDepth 20000 in
theorem ggX12_laysMates_X12_firstMate : GoodIn wsX12_laysMates wsX12_firstMate := goodIn_r _ [24, 9, 10, 8, 15, 16, 5, 17, 18, 19, 20, 25, 26, 27, 28, 29, 30, 31, 32, 33, 34, 35, 36, 37, 38, 39, 40, 41, 42, 43, 44, 45, 46, 47, 48] rfl (by decide +kernel)
set_option maxRecDepth 20000 in
theorem gX12_laysMates_X12_firstMate : GoodIn wsX12_laysMates (wsV RX12 113 RX12 yX12_firstMate wsX12_firstMate) := goodIn_app (goodIn_of _ (by decide +kernel)) ggX12_laysMates_X12_firstMate
theorem dX12_laysMates_13 : decode cX12_laysMates 13 = .ok (.iload_n 1, 1) := by decide +kernel
theorem dX12_laysMates_14 : decode cX12_laysMates 14 = .ok (.invokestatic 104, 3) := by decide +kernel
theorem dX12_laysMates_17 : decode cX12_laysMates 17 = .ok (.istore_n 2, 1) := by decide +kernel
theorem dX12_laysMates_18 : decode cX12_laysMates 18 = .ok (.aload_n 0, 1) := by decide +kernel
theorem dX12_laysMates_19 : decode cX12_laysMates 19 = .ok (.iload_n 1, 1) := by decide +kernel
theorem dX12_laysMates_20 : decode cX12_laysMates 20 = .ok (.invokevirtual 113, 3) := by decide +kernel
theorem dX12_laysMates_23 : decode cX12_laysMates 23 = .ok (.istore_n 3, 1) := by decide +kernel
theorem dX12_laysMates_24 : decode cX12_laysMates 24 = .ok (.aload_n 0, 1) := by decide +kernel
theorem dX12_laysMates_25 : decode cX12_laysMates 25 = .ok (.getfield 26, 3) := by decide +kernel
theorem dX12_laysMates_28 : decode cX12_laysMates 28 = .ok (.iload_n 2, 1) := by decide +kernel
theorem dX12_laysMates_29 : decode cX12_laysMates 29 = .ok (.iload_n 3, 1) := by decide +kernel
theorem dX12_laysMates_30 : decode cX12_laysMates 30 = .ok (.iastore, 1) := by decide +kernel
theorem dX12_laysMates_31 : decode cX12_laysMates 31 = .ok (.iload_n 1, 1) := by decide +kernel
theorem dX12_laysMates_32 : decode cX12_laysMates 32 = .ok (.iload_n 1, 1) := by decide +kernel
theorem dX12_laysMates_33 : decode cX12_laysMates 33 = .ok (.iconst 1, 1) := by decide +kernel
theorem dX12_laysMates_34 : decode cX12_laysMates 34 = .ok (.isub, 1) := by decide +kernel
theorem dX12_laysMates_35 : decode cX12_laysMates 35 = .ok (.iand, 1) := by decide +kernel
theorem dX12_laysMates_36 : decode cX12_laysMates 36 = .ok (.istore_n 1, 1) := by decide +kernel
theorem dX12_laysMates_37 : decode cX12_laysMates 37 = .ok (.iload_n 3, 1) := by decide +kernel
theorem dX12_laysMates_38 : decode cX12_laysMates 38 = .ok (.iconst (-1), 1) := by decide +kernel
theorem dX12_laysMates_39 : decode cX12_laysMates 39 = .ok (.if_icmp .ne 6, 3) := by decide +kernel
theorem dX12_laysMates_42 : decode cX12_laysMates 42 = .ok (.goto (-33), 3) := by decide +kernel
theorem dX12_laysMates_45 : decode cX12_laysMates 45 = .ok (.aload_n 0, 1) := by decide +kernel
theorem dX12_laysMates_46 : decode cX12_laysMates 46 = .ok (.getfield 26, 3) := by decide +kernel
theorem dX12_laysMates_49 : decode cX12_laysMates 49 = .ok (.iload_n 3, 1) := by decide +kernel
theorem dX12_laysMates_50 : decode cX12_laysMates 50 = .ok (.iload_n 2, 1) := by decide +kernel
theorem dX12_laysMates_51 : decode cX12_laysMates 51 = .ok (.iastore, 1) := by decide +kernel
theorem dX12_laysMates_52 : decode cX12_laysMates 52 = .ok (.iload_n 1, 1) := by decide +kernel
theorem dX12_laysMates_53 : decode cX12_laysMates 53 = .ok (.iconst 1, 1) := by decide +kernel
theorem dX12_laysMates_54 : decode cX12_laysMates 54 = .ok (.iload_n 3, 1) := by decide +kernel
theorem dX12_laysMates_55 : decode cX12_laysMates 55 = .ok (.ishl, 1) := by decide +kernel
theorem dX12_laysMates_56 : decode cX12_laysMates 56 = .ok (.iconst (-1), 1) := by decide +kernel
theorem dX12_laysMates_57 : decode cX12_laysMates 57 = .ok (.ixor, 1) := by decide +kernel
theorem dX12_laysMates_58 : decode cX12_laysMates 58 = .ok (.iand, 1) := by decide +kernel
theorem dX12_laysMates_59 : decode cX12_laysMates 59 = .ok (.istore_n 1, 1) := by decide +kernel
theorem dX12_laysMates_60 : decode cX12_laysMates 60 = .ok (.goto (-51), 3) := by decide +kernel
set_option maxHeartbeats 4000000 in
set_option maxRecDepth 100000 in
theorem w_X12_laysMates (l : Launch) (D : va_G) (cI cS : ClassId) (sz : Nat) (b : Nat → Nat) (L v0 : SU) (hL : TyL L) (hV : TyV v0) : Met l yX12_laysMates wsX12_laysMates ({ frames := 3, cells := 0, slots := 0, locals := 120 }) (PQ D cI cS (wM cI b L v0) sz [.ref (b 0)]) (QE (S := SU) D (wM cI b L v0) (wM cI b L) sz (fun u => TyV u ∧ True)) 0 0 (va_A (wM cI b L v0) sz) := by
  refine Met.ofW (cc := cX12_laysMates) (maxL := 4) (ret := none) (by decide) rfl ?_
  intro p e s m args below meth c s₁ B hml hv
  obtain ⟨rfl, hsz, hP, hKK, hD0⟩ := hv
  have hx := B.exec
  have hb := B.bytes
  have hr := B.returns
  have hts := atoms_spec (ws := wsX12_laysMates) B.pre
  have hown : s.vm.findClass RX12 = some m.cls := findClass_of_methodNamed B.named
  have hlocks := B.notSynchronized
  have hK := hKK.1
  have hin12 : ∀ w ∈ wsX120, w ∈ wsX12_laysMates := by decide +kernel
  subst hsz
  have hD := hD0.self (sz := s.heap.size)
  obtain ⟨A, hAe⟩ : ∃ A, A = va_A (wM cI b L v0) s.heap.size := ⟨_, rfl⟩
  rw [← hAe] at hD
  have hA : ∀ q : Nat, s.heap.size ≤ q → A q := fun q h => by rw [hAe]; exact Or.inr h
  have hS : va_S A s.heap s.heap [] := va_S.rf
  have hl := lv_entry ([.ref (b 0)]) (n := 4) (Nat.le_of_ble_eq_true rfl)
  rw [lg_entry_eq]
  generalize (lg_sl ([.ref (b 0)]) ++ List.replicate (4 - (lg_sl ([.ref (b 0)])).length) Slot.unset).toArray = ls at hl ⊢
  have hl : lv_has ls 4 [(0, .ref (b 0))] := hl
  obtain ⟨v, hv9⟩ : ∃ v : SU, v = v0 := ⟨_, rfl⟩
  rw [← hv9] at hP hD hV
  have lp9 : ∀ (n9 : Nat) (y9_l1 : Int32) (v : SU) (H : Heap) (locs : List Loc) (ls : Array Slot), Rg 0 4095 y9_l1 → TyV v → va_P D cls (wM cI b L v) H → va_D A (wM cI b L v) → va_S A s.heap H locs → lv_has ls 4 [(0, .ref (b 0)), (1, .int y9_l1)] → y9_l1.toInt < (n9 : Int) → W p l e (headSpec wsX12_laysMates ({ frames := 3, cells := 0, slots := 0, locals := 120 })).room s m ([.ref (b 0)]).toArray below meth c H locs 0 0 (MQ below (QE (S := SU) D (wM cI b L v0) (wM cI b L) s.heap.size (fun u => TyV u ∧ True)) ([.ref (b 0)]).toArray s 0 0 (va_A (wM cI b L v0) s.heap.size)) (F0 m 9 ls []) := by
    intro n9
    induction n9 with
    | zero =>
      intro y9_l1 v H locs ls g9_l1 hV hP hD hS hl hm9
      exact absurd rfl (me_0 g9_l1 (by decide) hm9)
    | succ n9 ih9 =>
      intro y9_l1 v H locs ls g9_l1 hV hP hD hS hl hm9
      refine lv_iload_n hx hb dX12_laysMates_9 rfl (lv_at hl 1 rfl) ?_
      refine lv_if_eq (tgt := 63) hx hb dX12_laysMates_10 (by decide) (fun c2136 => ?_) (fun c2136 => ?_)
      · have g2137 : Rg 0 0 y9_l1 := wk_eql g9_l1 (by decide : Rg 0 0 (0 : Int32)) c2136 (by decide)
        subst hAe
        exact W.vret hx hb hr (fun t ht hW => ⟨⟨v, rfl, ⟨hV, trivial⟩, by rw [ht]; exact hP, hD⟩, hS.F ht⟩) hS.2.2 dX12_laysMates_63
      · have g2138 : Rg 1 4095 y9_l1 := rg_ne_lo (k := 0) g9_l1 (by decide) c2136 (by decide)
        refine lv_iload_n hx hb dX12_laysMates_13 rfl (lv_at hl 1 rfl) ?_
        refine lz_ss (As := [.int y9_l1]) (rest := []) ⟨hx, hb, hml, hown, hts⟩ (w_X12_first l D cI cS y9_l1 g2138) hKK (hP.sub (ws' := []) [] rfl) (va_cwS 1 hts gX12_laysMates_X12_first rfl rfl rfl (by decide +kernel) ⟨Nat.le_of_ble_eq_true rfl, Nat.le_of_ble_eq_true rfl⟩) rfl hl.1 rfl (Nat.le_of_ble_eq_true rfl) dX12_laysMates_14 ⟨Nat.le_of_ble_eq_true rfl, Nat.le_of_ble_eq_true rfl⟩ (fun r2139 hr2139 => ?_)
        refine lv_istore_n (lv' := [(2, .int r2139), (0, .ref (b 0)), (1, .int y9_l1)]) hx hb dX12_laysMates_17 rfl hl (by decide) rfl (fun ls hl => ?_)
        refine lv_aload_n hx hb dX12_laysMates_18 rfl (lv_at hl 1 rfl) ?_
        refine lv_iload_n hx hb dX12_laysMates_19 rfl (lv_at hl 2 rfl) ?_
        refine wk_sv 0 (As := [.int y9_l1]) (rest := []) ⟨hx, hb, hml, hown, hts⟩ (w_X12_firstMate l D cI cS b L v hL hV y9_l1 g2138) hKK hP (ci := 12) rfl rfl (cwV 1 hts gX12_laysMates_X12_firstMate rfl rfl rfl (by decide +kernel) ⟨Nat.le_of_ble_eq_true rfl, Nat.le_of_ble_eq_true rfl⟩) rfl hl.1 rfl (Nat.le_of_ble_eq_true rfl) dX12_laysMates_20 ⟨Nat.le_of_ble_eq_true rfl, Nat.le_of_ble_eq_true rfl⟩ (fun r2140 hr2140 => ?_)
        refine lv_istore_n (lv' := [(3, .int r2140), (2, .int r2139), (0, .ref (b 0)), (1, .int y9_l1)]) hx hb dX12_laysMates_23 rfl hl (by decide) rfl (fun ls hl => ?_)
        refine lv_aload_n hx hb dX12_laysMates_24 rfl (lv_at hl 2 rfl) ?_
        refine va_get (D := D) (ci := 12) (v := .ref (b 5)) (C := RX12) (T := TX12) (N := 24) hx hb hts hin12 hown hK hP 0 rfl rfl 6 (by decide) (hts (.fieldLink RX12 26 "MissedPointsModel" "mates" "[I") (by decide +kernel)) (fun _ h9 => h9) rfl dX12_laysMates_25 ?_
        refine lv_iload_n hx hb dX12_laysMates_28 rfl (lv_at hl 1 rfl) ?_
        refine lv_iload_n hx hb dX12_laysMates_29 rfl (lv_at hl 0 rfl) ?_
        refine ms_5 hx hb hK hP hD hS hV rfl (rg_in hr2139.1 (by decide) (by decide)) hr2140.1 dX12_laysMates_30 (fun v H locs hV ev2141 hP hD hS => ?_)
        refine lv_iload_n hx hb dX12_laysMates_31 rfl (lv_at hl 3 rfl) ?_
        refine lv_iload_n hx hb dX12_laysMates_32 rfl (lv_at hl 3 rfl) ?_
        refine lv_iconst (v := 1) hx hb dX12_laysMates_33 (by decide) ?_
        refine wk_isub (e1 := 0) (f := 4094) hx hb dX12_laysMates_34 g2138 (by decide : Rg 1 1 (1 : Int32)) (by decide) (fun r2142 hr2142 er2142 qr2142 => ?_)
        refine wk_iandr hx hb dX12_laysMates_35 hr2142 (by decide) (fun r2143 hr2143 qr2143 => ?_)
        refine lv_istore_n (lv' := [(1, .int r2143), (3, .int r2140), (2, .int r2139), (0, .ref (b 0))]) hx hb dX12_laysMates_36 rfl hl (by decide) rfl (fun ls hl => ?_)
        refine lv_iload_n hx hb dX12_laysMates_37 rfl (lv_at hl 1 rfl) ?_
        refine lv_iconst (v := (-1)) hx hb dX12_laysMates_38 (by decide) ?_
        refine lv_icmp_ne (tgt := 45) hx hb dX12_laysMates_39 (by decide) (fun c2144 => ?_) (fun c2144 => ?_)
        · have g2145 : Rg 0 11 r2140 := rg_ne_lo (k := (-1)) hr2140.1 (by decide) c2144 (by decide)
          refine lv_aload_n hx hb dX12_laysMates_45 rfl (lv_at hl 3 rfl) ?_
          refine va_get (D := D) (ci := 12) (v := .ref (b 5)) (C := RX12) (T := TX12) (N := 24) hx hb hts hin12 hown hK hP 0 rfl rfl 6 (by decide) (hts (.fieldLink RX12 26 "MissedPointsModel" "mates" "[I") (by decide +kernel)) (fun _ h9 => h9) rfl dX12_laysMates_46 ?_
          refine lv_iload_n hx hb dX12_laysMates_49 rfl (lv_at hl 1 rfl) ?_
          refine lv_iload_n hx hb dX12_laysMates_50 rfl (lv_at hl 2 rfl) ?_
          refine ms_5 hx hb hK hP hD hS hV rfl (rg_in g2145 (by decide) (by decide)) (show Rg (-1) 11 r2139 from rg_w hr2139.1 (by decide) (by decide)) dX12_laysMates_51 (fun v H locs hV ev2146 hP hD hS => ?_)
          refine lv_iload_n hx hb dX12_laysMates_52 rfl (lv_at hl 0 rfl) ?_
          refine lv_iconst (v := 1) hx hb dX12_laysMates_53 (by decide) ?_
          refine lv_iload_n hx hb dX12_laysMates_54 rfl (lv_at hl 1 rfl) ?_
          refine wk_ishl1 (f := 2048) hx hb dX12_laysMates_55 g2145 (by decide) (fun r2147 hr2147 qr2147 => ?_)
          refine lv_iconst (v := (-1)) hx hb dX12_laysMates_56 (by decide) ?_
          refine lv_ixor hx hb dX12_laysMates_57 ?_
          refine wk_topP (P := fun r => r = r2147 ^^^ ((-1) : Int32)) rfl (fun r2148 qr2148 => ?_)
          refine wk_iandl hx hb dX12_laysMates_58 hr2143 (by decide) (fun r2149 hr2149 qr2149 => ?_)
          refine lv_istore_n (lv' := [(1, .int r2149), (3, .int r2140), (2, .int r2139), (0, .ref (b 0))]) hx hb dX12_laysMates_59 rfl hl (by decide) rfl (fun ls hl => ?_)
          refine lv_goto (tgt := 9) hx hb dX12_laysMates_60 (by decide) ?_
          exact ih9 r2149 v _ _ ls (show Rg 0 4095 r2149 from rg_w hr2149 (by decide) (by decide)) hV hP hD hS (lv_sub (l' := [(0, .ref (b 0)), (1, .int r2149)]) hl [3, 0] rfl) (me_lt hm9 (Int.lt_of_le_of_lt (by rw [qr2149]; exact an_le (Int.le_trans (by decide) hr2143.1)) (by rw [qr2143, qr2142]; exact an_pred (Int.le_trans (by decide) g2138.1) (wk_nz g2138 (by decide)))))
        · have g2150 : Rg (-1) (-1) r2140 := wk_eql hr2140.1 (by decide : Rg (-1) (-1) ((-1) : Int32)) c2144 (by decide)
          refine lv_goto (tgt := 9) hx hb dX12_laysMates_42 (by decide) ?_
          exact ih9 r2143 v _ _ ls (show Rg 0 4095 r2143 from rg_w hr2143 (by decide) (by decide)) hV hP hD hS (lv_sub (l' := [(0, .ref (b 0)), (1, .int r2143)]) hl [3, 0] rfl) (me_lt hm9 (by rw [qr2143, qr2142]; exact an_pred (Int.le_trans (by decide) g2138.1) (wk_nz g2138 (by decide))))
  refine lv_aload_n hx hb dX12_laysMates_0 rfl (lv_at hl 0 rfl) ?_
  refine wk_qv (wM cI b L) v (As := []) (rest := []) ⟨hx, hb, hml, hown, hts⟩ (w_X12_reckons l D cI cS _ b L v hL hV) hKK hP hD hS hA 0 (ci := 12) rfl rfl (cwV 0 hts gX12_laysMates_X12_reckons rfl rfl rfl (by decide +kernel) ⟨Nat.le_of_ble_eq_true rfl, Nat.le_of_ble_eq_true rfl⟩) rfl hl.1 rfl (Nat.le_of_ble_eq_true rfl) dX12_laysMates_1 ⟨Nat.le_of_ble_eq_true rfl, Nat.le_of_ble_eq_true rfl⟩ (fun v H locs hr2151 hP hD hS => ?_)
  have hV := hr2151.1
  refine lv_aload_n hx hb dX12_laysMates_4 rfl (lv_at hl 0 rfl) ?_
  refine wk_sv 0 (As := []) (rest := []) ⟨hx, hb, hml, hown, hts⟩ (w_X12_all l D cI cS b L v hL hV) hKK hP (ci := 12) rfl rfl (cwV 0 hts gX12_laysMates_X12_all rfl rfl rfl (by decide +kernel) ⟨Nat.le_of_ble_eq_true rfl, Nat.le_of_ble_eq_true rfl⟩) rfl hl.1 rfl (Nat.le_of_ble_eq_true rfl) dX12_laysMates_5 ⟨Nat.le_of_ble_eq_true rfl, Nat.le_of_ble_eq_true rfl⟩ (fun r2152 hr2152 => ?_)
  refine lv_istore_n (lv' := [(1, .int r2152), (0, .ref (b 0))]) hx hb dX12_laysMates_8 rfl hl (by decide) rfl (fun ls hl => ?_)
  exact lp9 4096 r2152 v _ _ ls hr2152.1 hV hP hD hS (lv_sub (l' := [(0, .ref (b 0)), (1, .int r2152)]) hl [1, 0] rfl) (me_k hr2152.1 (by decide))
set_option maxRecDepth 20000 in
theorem ggX12_mate_X12_laysMates : GoodIn wsX12_mate wsX12_laysMates := goodIn_r _ [14, 1, 15, 16, 17, 5, 18, 19, 20, 7, 21, 22, 23, 24, 25, 26, 27, 28, 29, 30, 31, 32, 33, 34, 35, 36, 37, 38, 39, 40, 41, 42, 43, 44, 45, 46, 47, 48, 49, 50, 51, 52, 53, 54, 55, 56, 57, 58, 59] rfl (by decide +kernel)
set_option maxRecDepth 20000 in
theorem gX12_mate_X12_laysMates : GoodIn wsX12_mate (wsV RX12 116 RX12 yX12_laysMates wsX12_laysMates) := goodIn_app (goodIn_of _ (by decide +kernel)) ggX12_mate_X12_laysMates
theorem dX12_mate_11 : decode cX12_mate 11 = .ok (.aload_n 0, 1) := by decide +kernel
theorem dX12_mate_12 : decode cX12_mate 12 = .ok (.invokevirtual 116, 3) := by decide +kernel
theorem dX12_mate_15 : decode cX12_mate 15 = .ok (.aload_n 0, 1) := by decide +kernel
theorem dX12_mate_16 : decode cX12_mate 16 = .ok (.getfield 26, 3) := by decide +kernel
theorem dX12_mate_19 : decode cX12_mate 19 = .ok (.iload_n 1, 1) := by decide +kernel
theorem dX12_mate_20 : decode cX12_mate 20 = .ok (.iaload, 1) := by decide +kernel
theorem dX12_mate_21 : decode cX12_mate 21 = .ok (.ireturn, 1) := by decide +kernel
set_option maxHeartbeats 4000000 in
set_option maxRecDepth 100000 in
theorem w_X12_mate (l : Launch) (D : va_G) (cI cS : ClassId) (sz : Nat) (b : Nat → Nat) (L v0 : SU) (hL : TyL L) (hV : TyV v0) (x0 : Int32) : Met l yX12_mate wsX12_mate ({ frames := 4, cells := 0, slots := 0, locals := 160 }) (PQ D cI cS (wM cI b L v0) sz [.ref (b 0), .int x0]) (QF (S := SU) D (wM cI b L v0) (wM cI b L) sz (fun r u => TyV u ∧ Rg (-2) 11 r ∧ True)) 0 0 (va_A (wM cI b L v0) sz) := by
  refine Met.ofW (cc := cX12_mate) (maxL := 2) (ret := (some .int)) (by decide) rfl ?_
  intro p e s m args below meth c s₁ B hml hv
  obtain ⟨rfl, hsz, hP, hKK, hD0⟩ := hv
  have hx := B.exec
  have hb := B.bytes
  have hr := B.returns
  have hts := atoms_spec (ws := wsX12_mate) B.pre
  have hown : s.vm.findClass RX12 = some m.cls := findClass_of_methodNamed B.named
  have hlocks := B.notSynchronized
  have hK := hKK.1
  have hin12 : ∀ w ∈ wsX120, w ∈ wsX12_mate := by decide +kernel
  subst hsz
  have hD := hD0.self (sz := s.heap.size)
  obtain ⟨A, hAe⟩ : ∃ A, A = va_A (wM cI b L v0) s.heap.size := ⟨_, rfl⟩
  rw [← hAe] at hD
  have hA : ∀ q : Nat, s.heap.size ≤ q → A q := fun q h => by rw [hAe]; exact Or.inr h
  have hS : va_S A s.heap s.heap [] := va_S.rf
  have hl := lv_entry ([.ref (b 0), .int x0]) (n := 2) (Nat.le_of_ble_eq_true rfl)
  rw [lg_entry_eq]
  generalize (lg_sl ([.ref (b 0), .int x0]) ++ List.replicate (2 - (lg_sl ([.ref (b 0), .int x0])).length) Slot.unset).toArray = ls at hl ⊢
  have hl : lv_has ls 2 [(0, .ref (b 0)), (1, .int x0)] := hl
  obtain ⟨v, hv9⟩ : ∃ v : SU, v = v0 := ⟨_, rfl⟩
  rw [← hv9] at hP hD hV
  refine lv_aload_n hx hb dX12_mate_0 rfl (lv_at hl 0 rfl) ?_
  refine lv_iload_n hx hb dX12_mate_1 rfl (lv_at hl 1 rfl) ?_
  refine wk_sv 0 (As := [.int x0]) (rest := []) ⟨hx, hb, hml, hown, hts⟩ (w_X12_isPoint l D cI cS b L v hL hV x0) hKK hP (ci := 12) rfl rfl (cwV 1 hts gX12_mate_X12_isPoint rfl rfl rfl (by decide +kernel) ⟨Nat.le_of_ble_eq_true rfl, Nat.le_of_ble_eq_true rfl⟩) rfl hl.1 rfl (Nat.le_of_ble_eq_true rfl) dX12_mate_2 ⟨Nat.le_of_ble_eq_true rfl, Nat.le_of_ble_eq_true rfl⟩ (fun r2161 hr2161 => ?_)
  refine lv_if_ne (tgt := 11) hx hb dX12_mate_5 (by decide) (fun c2162 => ?_) (fun c2162 => ?_)
  · have g2163 : Rg 0 11 x0 := (hr2161.2.1 c2162)
    have g2164 : Rg 1 1 r2161 := rg_ne_lo (k := 0) hr2161.1 (by decide) c2162 (by decide)
    refine lv_aload_n hx hb dX12_mate_11 rfl (lv_at hl 0 rfl) ?_
    refine wk_qv (wM cI b L) v (As := []) (rest := []) ⟨hx, hb, hml, hown, hts⟩ (w_X12_laysMates l D cI cS _ b L v hL hV) hKK hP hD hS hA 0 (ci := 12) rfl rfl (cwV 0 hts gX12_mate_X12_laysMates rfl rfl rfl (by decide +kernel) ⟨Nat.le_of_ble_eq_true rfl, Nat.le_of_ble_eq_true rfl⟩) rfl hl.1 rfl (Nat.le_of_ble_eq_true rfl) dX12_mate_12 ⟨Nat.le_of_ble_eq_true rfl, Nat.le_of_ble_eq_true rfl⟩ (fun v H locs hr2165 hP hD hS => ?_)
    have hV := hr2165.1
    refine lv_aload_n hx hb dX12_mate_15 rfl (lv_at hl 0 rfl) ?_
    refine va_get (D := D) (ci := 12) (v := .ref (b 5)) (C := RX12) (T := TX12) (N := 24) hx hb hts hin12 hown hK hP 0 rfl rfl 6 (by decide) (hts (.fieldLink RX12 26 "MissedPointsModel" "mates" "[I") (by decide +kernel)) (fun _ h9 => h9) rfl dX12_mate_16 ?_
    refine lv_iload_n hx hb dX12_mate_19 rfl (lv_at hl 1 rfl) ?_
    refine wk_ald hx hb hK hP 5 0 rfl rfl (rg_in g2163 (by decide) (by decide)) dX12_mate_20 hV.2.2.1 (fun r2166 hr2166 => ?_)
    subst hAe
    exact W.iret (v := r2166) hx hb hr (fun t ht hW => ⟨⟨_, v, rfl, ⟨hV, (show Rg (-2) 11 r2166 from rg_w hr2166 (by decide) (by decide)), trivial⟩, by rw [ht]; exact hP, hD⟩, hS.F ht⟩) hS.2.2 dX12_mate_21
  · have zt2167 : (x0.toInt < 0 ∨ (L 0 0).toInt - 1 < x0.toInt) := hr2161.2.2 c2162
    have g2168 : Rg 0 0 r2161 := wk_eql hr2161.1 (by decide : Rg 0 0 (0 : Int32)) c2162 (by decide)
    refine lv_bipush (v := (-2)) hx hb dX12_mate_8 (by decide) ?_
    subst hAe
    exact W.iret (v := (-2)) hx hb hr (fun t ht hW => ⟨⟨_, v, rfl, ⟨hV, (by decide : Rg (-2) 11 ((-2) : Int32)), trivial⟩, by rw [ht]; exact hP, hD⟩, hS.F ht⟩) hS.2.2 dX12_mate_10
set_option maxRecDepth 20000 in
theorem ggX12_ways_X12_first : GoodIn wsX12_ways wsX12_first := goodIn_r _ [14, 15, 16, 6, 17] rfl (by decide +kernel)
set_option maxRecDepth 20000 in
theorem gX12_ways_X12_first : GoodIn wsX12_ways (va_wsS RX12 104 yX12_first wsX12_first) := goodIn_app (goodIn_of _ (by decide +kernel)) ggX12_ways_X12_first
set_option maxRecDepth 20000 in
theorem ggX12_ways_X12_has : GoodIn wsX12_ways wsX12_has := goodIn_r _ [17] rfl (by decide +kernel)
set_option maxRecDepth 20000 in
theorem gX12_ways_X12_has : GoodIn wsX12_ways (va_wsS RX12 59 yX12_has wsX12_has) := goodIn_app (goodIn_of _ (by decide +kernel)) ggX12_ways_X12_has
theorem dX12_ways_102 : decode cX12_ways 102 = .ok (.goto (-35), 3) := by decide +kernel
theorem dX12_ways_105 : decode cX12_ways 105 = .ok (.iload_n 3, 1) := by decide +kernel
theorem dX12_ways_106 : decode cX12_ways 106 = .ok (.iconst 1, 1) := by decide +kernel
theorem dX12_ways_107 : decode cX12_ways 107 = .ok (.iadd, 1) := by decide +kernel
theorem dX12_ways_108 : decode cX12_ways 108 = .ok (.istore 5, 2) := by decide +kernel
theorem dX12_ways_110 : decode cX12_ways 110 = .ok (.iload 5, 2) := by decide +kernel
theorem dX12_ways_112 : decode cX12_ways 112 = .ok (.aload_n 0, 1) := by decide +kernel
theorem dX12_ways_113 : decode cX12_ways 113 = .ok (.getfield 63, 3) := by decide +kernel
theorem dX12_ways_116 : decode cX12_ways 116 = .ok (.if_icmp .ge 82, 3) := by decide +kernel
theorem dX12_ways_119 : decode cX12_ways 119 = .ok (.iload 4, 2) := by decide +kernel
theorem dX12_ways_121 : decode cX12_ways 121 = .ok (.aload_n 0, 1) := by decide +kernel
theorem dX12_ways_122 : decode cX12_ways 122 = .ok (.getfield 13, 3) := by decide +kernel
theorem dX12_ways_125 : decode cX12_ways 125 = .ok (.iload_n 3, 1) := by decide +kernel
theorem dX12_ways_126 : decode cX12_ways 126 = .ok (.iaload, 1) := by decide +kernel
theorem dX12_ways_127 : decode cX12_ways 127 = .ok (.iand, 1) := by decide +kernel
theorem dX12_ways_128 : decode cX12_ways 128 = .ok (.iload 5, 2) := by decide +kernel
theorem dX12_ways_130 : decode cX12_ways 130 = .ok (.invokestatic 59, 3) := by decide +kernel
theorem dX12_ways_133 : decode cX12_ways 133 = .ok (.ifCond .ne 6, 3) := by decide +kernel
theorem dX12_ways_136 : decode cX12_ways 136 = .ok (.goto 56, 3) := by decide +kernel
theorem dX12_ways_139 : decode cX12_ways 139 = .ok (.iconst 1, 1) := by decide +kernel
theorem dX12_ways_140 : decode cX12_ways 140 = .ok (.istore 6, 2) := by decide +kernel
theorem dX12_ways_142 : decode cX12_ways 142 = .ok (.iload 6, 2) := by decide +kernel
theorem dX12_ways_144 : decode cX12_ways 144 = .ok (.bipush 7, 2) := by decide +kernel
theorem dX12_ways_146 : decode cX12_ways 146 = .ok (.if_icmp .ge 46, 3) := by decide +kernel
theorem dX12_ways_149 : decode cX12_ways 149 = .ok (.aload_n 0, 1) := by decide +kernel
theorem dX12_ways_150 : decode cX12_ways 150 = .ok (.getfield 23, 3) := by decide +kernel
theorem dX12_ways_153 : decode cX12_ways 153 = .ok (.bipush 7, 2) := by decide +kernel
theorem dX12_ways_155 : decode cX12_ways 155 = .ok (.iload_n 2, 1) := by decide +kernel
theorem dX12_ways_156 : decode cX12_ways 156 = .ok (.imul, 1) := by decide +kernel
theorem dX12_ways_157 : decode cX12_ways 157 = .ok (.iload 6, 2) := by decide +kernel
theorem dX12_ways_159 : decode cX12_ways 159 = .ok (.iadd, 1) := by decide +kernel
theorem dX12_ways_160 : decode cX12_ways 160 = .ok (.dup2, 1) := by decide +kernel
theorem dX12_ways_161 : decode cX12_ways 161 = .ok (.iaload, 1) := by decide +kernel
theorem dX12_ways_162 : decode cX12_ways 162 = .ok (.aload_n 0, 1) := by decide +kernel
theorem dX12_ways_163 : decode cX12_ways 163 = .ok (.getfield 23, 3) := by decide +kernel
theorem dX12_ways_166 : decode cX12_ways 166 = .ok (.bipush 7, 2) := by decide +kernel
theorem dX12_ways_168 : decode cX12_ways 168 = .ok (.iload 4, 2) := by decide +kernel
theorem dX12_ways_170 : decode cX12_ways 170 = .ok (.iconst 1, 1) := by decide +kernel
theorem dX12_ways_171 : decode cX12_ways 171 = .ok (.iload 5, 2) := by decide +kernel
theorem dX12_ways_173 : decode cX12_ways 173 = .ok (.ishl, 1) := by decide +kernel
theorem dX12_ways_174 : decode cX12_ways 174 = .ok (.iconst (-1), 1) := by decide +kernel
theorem dX12_ways_175 : decode cX12_ways 175 = .ok (.ixor, 1) := by decide +kernel
theorem dX12_ways_176 : decode cX12_ways 176 = .ok (.iand, 1) := by decide +kernel
theorem dX12_ways_177 : decode cX12_ways 177 = .ok (.imul, 1) := by decide +kernel
theorem dX12_ways_178 : decode cX12_ways 178 = .ok (.iload 6, 2) := by decide +kernel
theorem dX12_ways_180 : decode cX12_ways 180 = .ok (.iadd, 1) := by decide +kernel
theorem dX12_ways_181 : decode cX12_ways 181 = .ok (.iconst 1, 1) := by decide +kernel
theorem dX12_ways_182 : decode cX12_ways 182 = .ok (.isub, 1) := by decide +kernel
theorem dX12_ways_183 : decode cX12_ways 183 = .ok (.iaload, 1) := by decide +kernel
theorem dX12_ways_184 : decode cX12_ways 184 = .ok (.iadd, 1) := by decide +kernel
theorem dX12_ways_185 : decode cX12_ways 185 = .ok (.iastore, 1) := by decide +kernel
theorem dX12_ways_186 : decode cX12_ways 186 = .ok (.iinc 6 1, 3) := by decide +kernel
theorem dX12_ways_189 : decode cX12_ways 189 = .ok (.goto (-47), 3) := by decide +kernel
theorem dX12_ways_192 : decode cX12_ways 192 = .ok (.iinc 5 1, 3) := by decide +kernel
theorem dX12_ways_195 : decode cX12_ways 195 = .ok (.goto (-85), 3) := by decide +kernel
theorem dX12_ways_198 : decode cX12_ways 198 = .ok (.iinc 2 1, 3) := by decide +kernel
theorem dX12_ways_201 : decode cX12_ways 201 = .ok (.goto (-157), 3) := by decide +kernel
theorem dX12_ways_52 : decode cX12_ways 52 = .ok (.iload_n 2, 1) := by decide +kernel
theorem dX12_ways_53 : decode cX12_ways 53 = .ok (.invokestatic 104, 3) := by decide +kernel
theorem dX12_ways_56 : decode cX12_ways 56 = .ok (.istore_n 3, 1) := by decide +kernel
theorem dX12_ways_57 : decode cX12_ways 57 = .ok (.iload_n 2, 1) := by decide +kernel
theorem dX12_ways_58 : decode cX12_ways 58 = .ok (.iload_n 2, 1) := by decide +kernel
theorem dX12_ways_59 : decode cX12_ways 59 = .ok (.iconst 1, 1) := by decide +kernel
theorem dX12_ways_60 : decode cX12_ways 60 = .ok (.isub, 1) := by decide +kernel
theorem dX12_ways_61 : decode cX12_ways 61 = .ok (.iand, 1) := by decide +kernel
theorem dX12_ways_62 : decode cX12_ways 62 = .ok (.istore 4, 2) := by decide +kernel
theorem dX12_ways_64 : decode cX12_ways 64 = .ok (.iconst 0, 1) := by decide +kernel
theorem dX12_ways_65 : decode cX12_ways 65 = .ok (.istore 5, 2) := by decide +kernel
theorem dX12_ways_67 : decode cX12_ways 67 = .ok (.iload 5, 2) := by decide +kernel
theorem dX12_ways_69 : decode cX12_ways 69 = .ok (.bipush 7, 2) := by decide +kernel
theorem dX12_ways_71 : decode cX12_ways 71 = .ok (.if_icmp .ge 34, 3) := by decide +kernel
theorem dX12_ways_74 : decode cX12_ways 74 = .ok (.aload_n 0, 1) := by decide +kernel
theorem dX12_ways_75 : decode cX12_ways 75 = .ok (.getfield 23, 3) := by decide +kernel
theorem dX12_ways_78 : decode cX12_ways 78 = .ok (.bipush 7, 2) := by decide +kernel
theorem dX12_ways_80 : decode cX12_ways 80 = .ok (.iload_n 2, 1) := by decide +kernel
theorem dX12_ways_81 : decode cX12_ways 81 = .ok (.imul, 1) := by decide +kernel
theorem dX12_ways_82 : decode cX12_ways 82 = .ok (.iload 5, 2) := by decide +kernel
theorem dX12_ways_84 : decode cX12_ways 84 = .ok (.iadd, 1) := by decide +kernel
theorem dX12_ways_85 : decode cX12_ways 85 = .ok (.aload_n 0, 1) := by decide +kernel
theorem dX12_ways_86 : decode cX12_ways 86 = .ok (.getfield 23, 3) := by decide +kernel
theorem dX12_ways_89 : decode cX12_ways 89 = .ok (.bipush 7, 2) := by decide +kernel
theorem dX12_ways_91 : decode cX12_ways 91 = .ok (.iload 4, 2) := by decide +kernel
theorem dX12_ways_93 : decode cX12_ways 93 = .ok (.imul, 1) := by decide +kernel
theorem dX12_ways_94 : decode cX12_ways 94 = .ok (.iload 5, 2) := by decide +kernel
theorem dX12_ways_96 : decode cX12_ways 96 = .ok (.iadd, 1) := by decide +kernel
theorem dX12_ways_97 : decode cX12_ways 97 = .ok (.iaload, 1) := by decide +kernel
theorem dX12_ways_98 : decode cX12_ways 98 = .ok (.iastore, 1) := by decide +kernel
theorem dX12_ways_99 : decode cX12_ways 99 = .ok (.iinc 5 1, 3) := by decide +kernel
set_option maxHeartbeats 4000000 in
set_option maxRecDepth 100000 in
theorem w_X12_ways (l : Launch) (D : va_G) (cI cS : ClassId) (sz : Nat) (b : Nat → Nat) (L v0 : SU) (hL : TyL L) (hV : TyV v0) (x0 : Int32) : Met l yX12_ways wsX12_ways ({ frames := 2, cells := 0, slots := 0, locals := 80 }) (PQ D cI cS (wM cI b L v0) sz [.ref (b 0), .int x0]) (QF (S := SU) D (wM cI b L v0) (wM cI b L) sz (fun r u => TyV u ∧ Rg (-2147483648) 2147483647 r ∧ True)) 0 0 (va_A (wM cI b L v0) sz) := by
  refine Met.ofW (cc := cX12_ways) (maxL := 7) (ret := (some .int)) (by decide) rfl ?_
  intro p e s m args below meth c s₁ B hml hv
  obtain ⟨rfl, hsz, hP, hKK, hD0⟩ := hv
  have hx := B.exec
  have hb := B.bytes
  have hr := B.returns
  have hts := atoms_spec (ws := wsX12_ways) B.pre
  have hown : s.vm.findClass RX12 = some m.cls := findClass_of_methodNamed B.named
  have hlocks := B.notSynchronized
  have hK := hKK.1
  have hin12 : ∀ w ∈ wsX120, w ∈ wsX12_ways := by decide +kernel
  subst hsz
  have hD := hD0.self (sz := s.heap.size)
  obtain ⟨A, hAe⟩ : ∃ A, A = va_A (wM cI b L v0) s.heap.size := ⟨_, rfl⟩
  rw [← hAe] at hD
  have hA : ∀ q : Nat, s.heap.size ≤ q → A q := fun q h => by rw [hAe]; exact Or.inr h
  have hS : va_S A s.heap s.heap [] := va_S.rf
  have hl := lv_entry ([.ref (b 0), .int x0]) (n := 7) (Nat.le_of_ble_eq_true rfl)
  rw [lg_entry_eq]
  generalize (lg_sl ([.ref (b 0), .int x0]) ++ List.replicate (7 - (lg_sl ([.ref (b 0), .int x0])).length) Slot.unset).toArray = ls at hl ⊢
  have hl : lv_has ls 7 [(0, .ref (b 0)), (1, .int x0)] := hl
  obtain ⟨v, hv9⟩ : ∃ v : SU, v = v0 := ⟨_, rfl⟩
  rw [← hv9] at hP hD hV
  have lp44 : ∀ (n44 : Nat) (y44_l2 : Int32) (v : SU) (H : Heap) (locs : List Loc) (ls : Array Slot), Rg 0 6 x0 → Rg 1 4096 y44_l2 → TyV v → va_P D cls (wM cI b L v) H → va_D A (wM cI b L v) → va_S A s.heap H locs → lv_has ls 7 [(0, .ref (b 0)), (1, .int x0), (2, .int y44_l2)] → 4096 - y44_l2.toInt < (n44 : Int) → W p l e (headSpec wsX12_ways ({ frames := 2, cells := 0, slots := 0, locals := 80 })).room s m ([.ref (b 0), .int x0]).toArray below meth c H locs 0 0 (MQ below (QF (S := SU) D (wM cI b L v0) (wM cI b L) s.heap.size (fun r u => TyV u ∧ Rg (-2147483648) 2147483647 r ∧ True)) ([.ref (b 0), .int x0]).toArray s 0 0 (va_A (wM cI b L v0) s.heap.size)) (F0 m 44 ls []) := by
    intro n44
    induction n44 with
    | zero =>
      intro y44_l2 v H locs ls g44_l1 g44_l2 hV hP hD hS hl hm44
      exact absurd rfl (me_z g44_l2 hm44)
    | succ n44 ih44 =>
      intro y44_l2 v H locs ls g44_l1 g44_l2 hV hP hD hS hl hm44
      have lp110 : ∀ (n110 : Nat) (y110_l3 : Int32) (y110_l4 : Int32) (y110_l5 : Int32) (v : SU) (H : Heap) (locs : List Loc) (ls : Array Slot), Rg 0 6 x0 → Rg 1 4095 y44_l2 → Rg 0 11 y110_l3 → Rg 0 4095 y110_l4 → Rg 1 12 y110_l5 → TyV v → va_P D cls (wM cI b L v) H → va_D A (wM cI b L v) → va_S A s.heap H locs → lv_has ls 7 [(0, .ref (b 0)), (1, .int x0), (2, .int y44_l2), (3, .int y110_l3), (4, .int y110_l4), (5, .int y110_l5)] → 12 - y110_l5.toInt < (n110 : Int) → W p l e (headSpec wsX12_ways ({ frames := 2, cells := 0, slots := 0, locals := 80 })).room s m ([.ref (b 0), .int x0]).toArray below meth c H locs 0 0 (MQ below (QF (S := SU) D (wM cI b L v0) (wM cI b L) s.heap.size (fun r u => TyV u ∧ Rg (-2147483648) 2147483647 r ∧ True)) ([.ref (b 0), .int x0]).toArray s 0 0 (va_A (wM cI b L v0) s.heap.size)) (F0 m 110 ls []) := by
        intro n110
        induction n110 with
        | zero =>
          intro y110_l3 y110_l4 y110_l5 v H locs ls g110_l1 g110_l2 g110_l3 g110_l4 g110_l5 hV hP hD hS hl hm110
          exact absurd rfl (me_z g110_l5 hm110)
        | succ n110 ih110 =>
          intro y110_l3 y110_l4 y110_l5 v H locs ls g110_l1 g110_l2 g110_l3 g110_l4 g110_l5 hV hP hD hS hl hm110
          have lp142 : ∀ (n142 : Nat) (y142_l6 : Int32) (v : SU) (H : Heap) (locs : List Loc) (ls : Array Slot), Rg 0 6 x0 → Rg 1 4095 y44_l2 → Rg 0 11 y110_l3 → Rg 0 4095 y110_l4 → Rg 1 11 y110_l5 → Rg 1 11 y142_l6 → TyV v → va_P D cls (wM cI b L v) H → va_D A (wM cI b L v) → va_S A s.heap H locs → lv_has ls 7 [(0, .ref (b 0)), (1, .int x0), (2, .int y44_l2), (3, .int y110_l3), (4, .int y110_l4), (5, .int y110_l5), (6, .int y142_l6)] → 11 - y142_l6.toInt < (n142 : Int) → W p l e (headSpec wsX12_ways ({ frames := 2, cells := 0, slots := 0, locals := 80 })).room s m ([.ref (b 0), .int x0]).toArray below meth c H locs 0 0 (MQ below (QF (S := SU) D (wM cI b L v0) (wM cI b L) s.heap.size (fun r u => TyV u ∧ Rg (-2147483648) 2147483647 r ∧ True)) ([.ref (b 0), .int x0]).toArray s 0 0 (va_A (wM cI b L v0) s.heap.size)) (F0 m 142 ls []) := by
            intro n142
            induction n142 with
            | zero =>
              intro y142_l6 v H locs ls g142_l1 g142_l2 g142_l3 g142_l4 g142_l5 g142_l6 hV hP hD hS hl hm142
              exact absurd rfl (me_z g142_l6 hm142)
            | succ n142 ih142 =>
              intro y142_l6 v H locs ls g142_l1 g142_l2 g142_l3 g142_l4 g142_l5 g142_l6 hV hP hD hS hl hm142
              refine lv_iload hx hb dX12_ways_142 (lv_at hl 6 rfl) ?_
              refine lv_bipush (v := 7) hx hb dX12_ways_144 (by decide) ?_
              refine lv_icmp_ge (tgt := 192) hx hb dX12_ways_146 (by decide) (fun c4231 => ?_) (fun c4231 => ?_)
              · have g4232 : Rg 7 11 y142_l6 := rg_ler (by decide : Rg 7 7 (7 : Int32)) g142_l6 c4231 (by decide)
                refine wk_iinc (lv' := fun r => [(5, .int r), (0, .ref (b 0)), (1, .int x0), (2, .int y44_l2), (3, .int y110_l3), (4, .int y110_l4), (6, .int y142_l6)]) (e1 := 2) (f := 12) hx hb dX12_ways_192 hl (k := 5) rfl (by decide) g142_l5 (by decide) (fun _ => rfl) (fun r4233 ls hr4233 er4233 hl => ?_)
                refine lv_goto (tgt := 110) hx hb dX12_ways_195 (by decide) ?_
                exact ih110 y110_l3 y110_l4 r4233 v _ _ ls g142_l1 g142_l2 g142_l3 g142_l4 (show Rg 1 12 r4233 from rg_w hr4233 (by decide) (by decide)) hV hP hD hS (lv_sub (l' := [(0, .ref (b 0)), (1, .int x0), (2, .int y44_l2), (3, .int y110_l3), (4, .int y110_l4), (5, .int r4233)]) hl [1, 2, 3, 4, 5, 0] rfl) (me_up hm110 er4233 (by decide))
              · have g4234 : Rg 1 6 y142_l6 := rg_ltl g142_l6 (by decide : Rg 7 7 (7 : Int32)) (rg_nle c4231) (by decide)
                refine lv_aload_n hx hb dX12_ways_149 rfl (lv_at hl 0 rfl) ?_
                refine va_get (D := D) (ci := 12) (v := .ref (b 4)) (C := RX12) (T := TX12) (N := 24) hx hb hts hin12 hown hK hP 0 rfl rfl 5 (by decide) (hts (.fieldLink RX12 23 "MissedPointsModel" "sizedWays" "[I") (by decide +kernel)) (fun _ h9 => h9) rfl dX12_ways_150 ?_
                refine lv_bipush (v := 7) hx hb dX12_ways_153 (by decide) ?_
                refine lv_iload_n hx hb dX12_ways_155 rfl (lv_at hl 2 rfl) ?_
                refine wk_imul (f := 28665) hx hb dX12_ways_156 (by decide : Rg 0 7 (7 : Int32)) (show Rg 0 4095 y44_l2 from rg_w g142_l2 (by decide) (by decide)) (by decide) (fun r4235 hr4235 er4235 qr4235 => ?_)
                refine lv_iload hx hb dX12_ways_157 (lv_at hl 6 rfl) ?_
                refine wk_iadd (e1 := 1) (f := 28671) hx hb dX12_ways_159 hr4235 g4234 (by decide) (fun r4236 hr4236 er4236 qr4236 => ?_)
                refine lv_dup2_11 hx hb dX12_ways_160 rfl rfl ?_
                refine wk_aldA hx hb hK hP 4 0 rfl rfl (rg_in hr4236 (by decide) (by decide)) dX12_ways_161 (fun r4237 => ?_)
                refine lv_aload_n hx hb dX12_ways_162 rfl (lv_at hl 0 rfl) ?_
                refine va_get (D := D) (ci := 12) (v := .ref (b 4)) (C := RX12) (T := TX12) (N := 24) hx hb hts hin12 hown hK hP 0 rfl rfl 5 (by decide) (hts (.fieldLink RX12 23 "MissedPointsModel" "sizedWays" "[I") (by decide +kernel)) (fun _ h9 => h9) rfl dX12_ways_163 ?_
                refine lv_bipush (v := 7) hx hb dX12_ways_166 (by decide) ?_
                refine lv_iload hx hb dX12_ways_168 (lv_at hl 4 rfl) ?_
                refine lv_iconst (v := 1) hx hb dX12_ways_170 (by decide) ?_
                refine lv_iload hx hb dX12_ways_171 (lv_at hl 5 rfl) ?_
                refine wk_ishl1 (f := 2048) hx hb dX12_ways_173 (show Rg 0 11 y110_l5 from rg_w g142_l5 (by decide) (by decide)) (by decide) (fun r4238 hr4238 qr4238 => ?_)
                refine lv_iconst (v := (-1)) hx hb dX12_ways_174 (by decide) ?_
                refine lv_ixor hx hb dX12_ways_175 ?_
                refine wk_topP (P := fun r => r = r4238 ^^^ ((-1) : Int32)) rfl (fun r4239 qr4239 => ?_)
                refine wk_iandl hx hb dX12_ways_176 g142_l4 (by decide) (fun r4240 hr4240 qr4240 => ?_)
                refine wk_imul (f := 28665) hx hb dX12_ways_177 (by decide : Rg 0 7 (7 : Int32)) hr4240 (by decide) (fun r4241 hr4241 er4241 qr4241 => ?_)
                refine lv_iload hx hb dX12_ways_178 (lv_at hl 6 rfl) ?_
                refine wk_iadd (e1 := 1) (f := 28671) hx hb dX12_ways_180 hr4241 g4234 (by decide) (fun r4242 hr4242 er4242 qr4242 => ?_)
                refine lv_iconst (v := 1) hx hb dX12_ways_181 (by decide) ?_
                refine wk_isub (e1 := 0) (f := 28670) hx hb dX12_ways_182 hr4242 (by decide : Rg 1 1 (1 : Int32)) (by decide) (fun r4243 hr4243 er4243 qr4243 => ?_)
                refine wk_aldA hx hb hK hP 4 0 rfl rfl (rg_in hr4243 (by decide) (by decide)) dX12_ways_183 (fun r4244 => ?_)
                refine lv_iadd hx hb dX12_ways_184 ?_
                refine wk_topP (P := fun r => r = r4237 + r4244) rfl (fun r4245 qr4245 => ?_)
                refine ms_4 hx hb hK hP hD hS hV rfl (rg_in hr4236 (by decide) (by decide)) dX12_ways_185 (fun v H locs hV ev4246 hP hD hS => ?_)
                refine wk_iinc (lv' := fun r => [(6, .int r), (0, .ref (b 0)), (1, .int x0), (2, .int y44_l2), (3, .int y110_l3), (4, .int y110_l4), (5, .int y110_l5)]) (e1 := 2) (f := 7) hx hb dX12_ways_186 hl (k := 6) rfl (by decide) g4234 (by decide) (fun _ => rfl) (fun r4247 ls hr4247 er4247 hl => ?_)
                refine lv_goto (tgt := 142) hx hb dX12_ways_189 (by decide) ?_
                exact ih142 r4247 v _ _ ls g142_l1 g142_l2 g142_l3 g142_l4 g142_l5 (show Rg 1 11 r4247 from rg_w hr4247 (by decide) (by decide)) hV hP hD hS (lv_sub (l' := [(0, .ref (b 0)), (1, .int x0), (2, .int y44_l2), (3, .int y110_l3), (4, .int y110_l4), (5, .int y110_l5), (6, .int r4247)]) hl [1, 2, 3, 4, 5, 6, 0] rfl) (me_up hm142 er4247 (by decide))
          refine lv_iload hx hb dX12_ways_110 (lv_at hl 5 rfl) ?_
          refine lv_aload_n hx hb dX12_ways_112 rfl (lv_at hl 0 rfl) ?_
          refine va_get (D := D) (ci := 12) (v := .int (L 0 0)) (C := RX12) (T := TX12) (N := 24) hx hb hts hin12 hown hK hP 0 rfl rfl 0 (by decide) (hts (.fieldLink RX12 63 "MissedPointsModel" "many" "I") (by decide +kernel)) (fun _ h9 => h9) rfl dX12_ways_113 ?_
          refine lv_icmp_ge (tgt := 198) hx hb dX12_ways_116 (by decide) (fun c4248 => ?_) (fun c4248 => ?_)
          · refine wk_iinc (lv' := fun r => [(2, .int r), (0, .ref (b 0)), (1, .int x0), (3, .int y110_l3), (4, .int y110_l4), (5, .int y110_l5)]) (e1 := 2) (f := 4096) hx hb dX12_ways_198 hl (k := 2) rfl (by decide) g110_l2 (by decide) (fun _ => rfl) (fun r4249 ls hr4249 er4249 hl => ?_)
            refine lv_goto (tgt := 44) hx hb dX12_ways_201 (by decide) ?_
            exact ih44 r4249 v _ _ ls g110_l1 (show Rg 1 4096 r4249 from rg_w hr4249 (by decide) (by decide)) hV hP hD hS (lv_sub (l' := [(0, .ref (b 0)), (1, .int x0), (2, .int r4249)]) hl [1, 2, 0] rfl) (me_up hm44 er4249 (by decide))
          · have g4250 : Rg 2 12 (L 0 0) := rg_ltr g110_l5 hL.1 (rg_nle c4248) (by decide)
            have g4251 : Rg 1 11 y110_l5 := rg_ltl g110_l5 hL.1 (rg_nle c4248) (by decide)
            refine lv_iload hx hb dX12_ways_119 (lv_at hl 4 rfl) ?_
            refine lv_aload_n hx hb dX12_ways_121 rfl (lv_at hl 0 rfl) ?_
            refine va_get (D := D) (ci := 12) (v := .ref (b 1)) (C := RX12) (T := TX12) (N := 24) hx hb hts hin12 hown hK hP 0 rfl rfl 2 (by decide) (hts (.fieldLink RX12 13 "MissedPointsModel" "near" "[I") (by decide +kernel)) (fun _ h9 => h9) rfl dX12_ways_122 ?_
            refine lv_iload_n hx hb dX12_ways_125 rfl (lv_at hl 3 rfl) ?_
            refine wk_ald hx hb hK hP 1 0 rfl rfl (rg_in g110_l3 (by decide) (by decide)) dX12_ways_126 hV.1 (fun r4252 hr4252 => ?_)
            refine wk_iandl hx hb dX12_ways_127 g110_l4 (by decide) (fun r4253 hr4253 qr4253 => ?_)
            refine lv_iload hx hb dX12_ways_128 (lv_at hl 5 rfl) ?_
            refine lz_ss (As := [.int r4253, .int y110_l5]) (rest := []) ⟨hx, hb, hml, hown, hts⟩ (w_X12_has l D cI cS r4253 y110_l5) hKK (hP.sub (ws' := []) [] rfl) (va_cwS 2 hts gX12_ways_X12_has rfl rfl rfl (by decide +kernel) ⟨Nat.le_of_ble_eq_true rfl, Nat.le_of_ble_eq_true rfl⟩) rfl hl.1 rfl (Nat.le_of_ble_eq_true rfl) dX12_ways_130 ⟨Nat.le_of_ble_eq_true rfl, Nat.le_of_ble_eq_true rfl⟩ (fun r4254 hr4254 => ?_)
            refine lv_if_ne (tgt := 139) hx hb dX12_ways_133 (by decide) (fun c4255 => ?_) (fun c4255 => ?_)
            · have g4256 : Rg 1 1 r4254 := rg_ne_lo (k := 0) hr4254.1 (by decide) c4255 (by decide)
              refine lv_iconst (v := 1) hx hb dX12_ways_139 (by decide) ?_
              refine lv_istore (lv' := [(6, .int 1), (0, .ref (b 0)), (1, .int x0), (2, .int y44_l2), (3, .int y110_l3), (4, .int y110_l4), (5, .int y110_l5)]) hx hb dX12_ways_140 hl (by decide) rfl (fun ls hl => ?_)
              exact lp142 11 (1 : Int32) v _ _ ls g110_l1 g110_l2 g110_l3 g110_l4 g4251 (by decide : Rg 1 11 (1 : Int32)) hV hP hD hS (lv_sub (l' := [(0, .ref (b 0)), (1, .int x0), (2, .int y44_l2), (3, .int y110_l3), (4, .int y110_l4), (5, .int y110_l5), (6, .int 1)]) hl [1, 2, 3, 4, 5, 6, 0] rfl) (me_i (by decide : Rg 1 11 (1 : Int32)) (by decide))
            · have g4257 : Rg 0 0 r4254 := wk_eql hr4254.1 (by decide : Rg 0 0 (0 : Int32)) c4255 (by decide)
              refine lv_goto (tgt := 192) hx hb dX12_ways_136 (by decide) ?_
              refine wk_iinc (lv' := fun r => [(5, .int r), (0, .ref (b 0)), (1, .int x0), (2, .int y44_l2), (3, .int y110_l3), (4, .int y110_l4)]) (e1 := 2) (f := 12) hx hb dX12_ways_192 hl (k := 5) rfl (by decide) g4251 (by decide) (fun _ => rfl) (fun r4258 ls hr4258 er4258 hl => ?_)
              refine lv_goto (tgt := 110) hx hb dX12_ways_195 (by decide) ?_
              exact ih110 y110_l3 y110_l4 r4258 v _ _ ls g110_l1 g110_l2 g110_l3 g110_l4 (show Rg 1 12 r4258 from rg_w hr4258 (by decide) (by decide)) hV hP hD hS (lv_sub (l' := [(0, .ref (b 0)), (1, .int x0), (2, .int y44_l2), (3, .int y110_l3), (4, .int y110_l4), (5, .int r4258)]) hl [1, 2, 3, 4, 5, 0] rfl) (me_up hm110 er4258 (by decide))
      have lp67 : ∀ (n67 : Nat) (y67_l3 : Int32) (y67_l4 : Int32) (y67_l5 : Int32) (v : SU) (H : Heap) (locs : List Loc) (ls : Array Slot), Rg 0 6 x0 → Rg 1 4095 y44_l2 → Rg 0 11 y67_l3 → Rg 0 4095 y67_l4 → Rg 0 11 y67_l5 → TyV v → va_P D cls (wM cI b L v) H → va_D A (wM cI b L v) → va_S A s.heap H locs → lv_has ls 7 [(0, .ref (b 0)), (1, .int x0), (2, .int y44_l2), (3, .int y67_l3), (4, .int y67_l4), (5, .int y67_l5)] → 11 - y67_l5.toInt < (n67 : Int) → W p l e (headSpec wsX12_ways ({ frames := 2, cells := 0, slots := 0, locals := 80 })).room s m ([.ref (b 0), .int x0]).toArray below meth c H locs 0 0 (MQ below (QF (S := SU) D (wM cI b L v0) (wM cI b L) s.heap.size (fun r u => TyV u ∧ Rg (-2147483648) 2147483647 r ∧ True)) ([.ref (b 0), .int x0]).toArray s 0 0 (va_A (wM cI b L v0) s.heap.size)) (F0 m 67 ls []) := by
        intro n67
        induction n67 with
        | zero =>
          intro y67_l3 y67_l4 y67_l5 v H locs ls g67_l1 g67_l2 g67_l3 g67_l4 g67_l5 hV hP hD hS hl hm67
          exact absurd rfl (me_z g67_l5 hm67)
        | succ n67 ih67 =>
          intro y67_l3 y67_l4 y67_l5 v H locs ls g67_l1 g67_l2 g67_l3 g67_l4 g67_l5 hV hP hD hS hl hm67
          refine lv_iload hx hb dX12_ways_67 (lv_at hl 5 rfl) ?_
          refine lv_bipush (v := 7) hx hb dX12_ways_69 (by decide) ?_
          refine lv_icmp_ge (tgt := 105) hx hb dX12_ways_71 (by decide) (fun c4259 => ?_) (fun c4259 => ?_)
          · have g4260 : Rg 7 11 y67_l5 := rg_ler (by decide : Rg 7 7 (7 : Int32)) g67_l5 c4259 (by decide)
            refine lv_iload_n hx hb dX12_ways_105 rfl (lv_at hl 3 rfl) ?_
            refine lv_iconst (v := 1) hx hb dX12_ways_106 (by decide) ?_
            refine wk_iadd (e1 := 1) (f := 12) hx hb dX12_ways_107 g67_l3 (by decide : Rg 1 1 (1 : Int32)) (by decide) (fun r4261 hr4261 er4261 qr4261 => ?_)
            refine lv_istore (lv' := [(5, .int r4261), (0, .ref (b 0)), (1, .int x0), (2, .int y44_l2), (3, .int y67_l3), (4, .int y67_l4)]) hx hb dX12_ways_108 hl (by decide) rfl (fun ls hl => ?_)
            exact lp110 12 y67_l3 y67_l4 r4261 v _ _ ls g67_l1 g67_l2 g67_l3 g67_l4 hr4261 hV hP hD hS (lv_sub (l' := [(0, .ref (b 0)), (1, .int x0), (2, .int y44_l2), (3, .int y67_l3), (4, .int y67_l4), (5, .int r4261)]) hl [1, 2, 3, 4, 5, 0] rfl) (me_i hr4261 (by decide))
          · have g4262 : Rg 0 6 y67_l5 := rg_ltl g67_l5 (by decide : Rg 7 7 (7 : Int32)) (rg_nle c4259) (by decide)
            refine lv_aload_n hx hb dX12_ways_74 rfl (lv_at hl 0 rfl) ?_
            refine va_get (D := D) (ci := 12) (v := .ref (b 4)) (C := RX12) (T := TX12) (N := 24) hx hb hts hin12 hown hK hP 0 rfl rfl 5 (by decide) (hts (.fieldLink RX12 23 "MissedPointsModel" "sizedWays" "[I") (by decide +kernel)) (fun _ h9 => h9) rfl dX12_ways_75 ?_
            refine lv_bipush (v := 7) hx hb dX12_ways_78 (by decide) ?_
            refine lv_iload_n hx hb dX12_ways_80 rfl (lv_at hl 2 rfl) ?_
            refine wk_imul (f := 28665) hx hb dX12_ways_81 (by decide : Rg 0 7 (7 : Int32)) (show Rg 0 4095 y44_l2 from rg_w g67_l2 (by decide) (by decide)) (by decide) (fun r4263 hr4263 er4263 qr4263 => ?_)
            refine lv_iload hx hb dX12_ways_82 (lv_at hl 5 rfl) ?_
            refine wk_iadd (e1 := 0) (f := 28671) hx hb dX12_ways_84 hr4263 g4262 (by decide) (fun r4264 hr4264 er4264 qr4264 => ?_)
            refine lv_aload_n hx hb dX12_ways_85 rfl (lv_at hl 0 rfl) ?_
            refine va_get (D := D) (ci := 12) (v := .ref (b 4)) (C := RX12) (T := TX12) (N := 24) hx hb hts hin12 hown hK hP 0 rfl rfl 5 (by decide) (hts (.fieldLink RX12 23 "MissedPointsModel" "sizedWays" "[I") (by decide +kernel)) (fun _ h9 => h9) rfl dX12_ways_86 ?_
            refine lv_bipush (v := 7) hx hb dX12_ways_89 (by decide) ?_
            refine lv_iload hx hb dX12_ways_91 (lv_at hl 4 rfl) ?_
            refine wk_imul (f := 28665) hx hb dX12_ways_93 (by decide : Rg 0 7 (7 : Int32)) g67_l4 (by decide) (fun r4265 hr4265 er4265 qr4265 => ?_)
            refine lv_iload hx hb dX12_ways_94 (lv_at hl 5 rfl) ?_
            refine wk_iadd (e1 := 0) (f := 28671) hx hb dX12_ways_96 hr4265 g4262 (by decide) (fun r4266 hr4266 er4266 qr4266 => ?_)
            refine wk_aldA hx hb hK hP 4 0 rfl rfl (rg_in hr4266 (by decide) (by decide)) dX12_ways_97 (fun r4267 => ?_)
            refine ms_4 hx hb hK hP hD hS hV rfl (rg_in hr4264 (by decide) (by decide)) dX12_ways_98 (fun v H locs hV ev4268 hP hD hS => ?_)
            refine wk_iinc (lv' := fun r => [(5, .int r), (0, .ref (b 0)), (1, .int x0), (2, .int y44_l2), (3, .int y67_l3), (4, .int y67_l4)]) (e1 := 1) (f := 7) hx hb dX12_ways_99 hl (k := 5) rfl (by decide) g4262 (by decide) (fun _ => rfl) (fun r4269 ls hr4269 er4269 hl => ?_)
            refine lv_goto (tgt := 67) hx hb dX12_ways_102 (by decide) ?_
            exact ih67 y67_l3 y67_l4 r4269 v _ _ ls g67_l1 g67_l2 g67_l3 g67_l4 (show Rg 0 11 r4269 from rg_w hr4269 (by decide) (by decide)) hV hP hD hS (lv_sub (l' := [(0, .ref (b 0)), (1, .int x0), (2, .int y44_l2), (3, .int y67_l3), (4, .int y67_l4), (5, .int r4269)]) hl [1, 2, 3, 4, 5, 0] rfl) (me_up hm67 er4269 (by decide))
      refine lv_iload_n hx hb dX12_ways_44 rfl (lv_at hl 2 rfl) ?_
      refine lv_aload_n hx hb dX12_ways_45 rfl (lv_at hl 0 rfl) ?_
      refine wk_sv 0 (As := []) (rest := [.int y44_l2]) ⟨hx, hb, hml, hown, hts⟩ (w_X12_all l D cI cS b L v hL hV) hKK hP (ci := 12) rfl rfl (cwV 0 hts gX12_ways_X12_all rfl rfl rfl (by decide +kernel) ⟨Nat.le_of_ble_eq_true rfl, Nat.le_of_ble_eq_true rfl⟩) rfl hl.1 rfl (Nat.le_of_ble_eq_true rfl) dX12_ways_46 ⟨Nat.le_of_ble_eq_true rfl, Nat.le_of_ble_eq_true rfl⟩ (fun r4270 hr4270 => ?_)
      refine lv_icmp_gt (tgt := 204) hx hb dX12_ways_49 (by decide) (fun c4271 => ?_) (fun c4271 => ?_)
      · refine lv_aload_n hx hb dX12_ways_204 rfl (lv_at hl 0 rfl) ?_
        refine va_get (D := D) (ci := 12) (v := .ref (b 4)) (C := RX12) (T := TX12) (N := 24) hx hb hts hin12 hown hK hP 0 rfl rfl 5 (by decide) (hts (.fieldLink RX12 23 "MissedPointsModel" "sizedWays" "[I") (by decide +kernel)) (fun _ h9 => h9) rfl dX12_ways_205 ?_
        refine lv_bipush (v := 7) hx hb dX12_ways_208 (by decide) ?_
        refine lv_aload_n hx hb dX12_ways_210 rfl (lv_at hl 0 rfl) ?_
        refine wk_sv 0 (As := []) (rest := [.int 7, .ref (b 4)]) ⟨hx, hb, hml, hown, hts⟩ (w_X12_all l D cI cS b L v hL hV) hKK hP (ci := 12) rfl rfl (cwV 0 hts gX12_ways_X12_all rfl rfl rfl (by decide +kernel) ⟨Nat.le_of_ble_eq_true rfl, Nat.le_of_ble_eq_true rfl⟩) rfl hl.1 rfl (Nat.le_of_ble_eq_true rfl) dX12_ways_211 ⟨Nat.le_of_ble_eq_true rfl, Nat.le_of_ble_eq_true rfl⟩ (fun r4272 hr4272 => ?_)
        refine wk_imul (f := 28665) hx hb dX12_ways_214 (by decide : Rg 0 7 (7 : Int32)) hr4272.1 (by decide) (fun r4273 hr4273 er4273 qr4273 => ?_)
        refine lv_iload_n hx hb dX12_ways_215 rfl (lv_at hl 1 rfl) ?_
        refine wk_iadd (e1 := 0) (f := 28671) hx hb dX12_ways_216 hr4273 g44_l1 (by decide) (fun r4274 hr4274 er4274 qr4274 => ?_)
        refine wk_aldA hx hb hK hP 4 0 rfl rfl (rg_in hr4274 (by decide) (by decide)) dX12_ways_217 (fun r4275 => ?_)
        subst hAe
        exact W.iret (v := r4275) hx hb hr (fun t ht hW => ⟨⟨_, v, rfl, ⟨hV, (rg_any r4275), trivial⟩, by rw [ht]; exact hP, hD⟩, hS.F ht⟩) hS.2.2 dX12_ways_218
      · have g4276 : Rg 1 4095 r4270 := rg_ler g44_l2 hr4270.1 (rg_nlt c4271) (by decide)
        have g4277 : Rg 1 4095 y44_l2 := rg_lel g44_l2 hr4270.1 (rg_nlt c4271) (by decide)
        refine lv_iload_n hx hb dX12_ways_52 rfl (lv_at hl 2 rfl) ?_
        refine lz_ss (As := [.int y44_l2]) (rest := []) ⟨hx, hb, hml, hown, hts⟩ (w_X12_first l D cI cS y44_l2 g4277) hKK (hP.sub (ws' := []) [] rfl) (va_cwS 1 hts gX12_ways_X12_first rfl rfl rfl (by decide +kernel) ⟨Nat.le_of_ble_eq_true rfl, Nat.le_of_ble_eq_true rfl⟩) rfl hl.1 rfl (Nat.le_of_ble_eq_true rfl) dX12_ways_53 ⟨Nat.le_of_ble_eq_true rfl, Nat.le_of_ble_eq_true rfl⟩ (fun r4278 hr4278 => ?_)
        refine lv_istore_n (lv' := [(3, .int r4278), (0, .ref (b 0)), (1, .int x0), (2, .int y44_l2)]) hx hb dX12_ways_56 rfl hl (by decide) rfl (fun ls hl => ?_)
        refine lv_iload_n hx hb dX12_ways_57 rfl (lv_at hl 3 rfl) ?_
        refine lv_iload_n hx hb dX12_ways_58 rfl (lv_at hl 3 rfl) ?_
        refine lv_iconst (v := 1) hx hb dX12_ways_59 (by decide) ?_
        refine wk_isub (e1 := 0) (f := 4094) hx hb dX12_ways_60 g4277 (by decide : Rg 1 1 (1 : Int32)) (by decide) (fun r4279 hr4279 er4279 qr4279 => ?_)
        refine wk_iandr hx hb dX12_ways_61 hr4279 (by decide) (fun r4280 hr4280 qr4280 => ?_)
        refine lv_istore (lv' := [(4, .int r4280), (3, .int r4278), (0, .ref (b 0)), (1, .int x0), (2, .int y44_l2)]) hx hb dX12_ways_62 hl (by decide) rfl (fun ls hl => ?_)
        refine lv_iconst (v := 0) hx hb dX12_ways_64 (by decide) ?_
        refine lv_istore (lv' := [(5, .int 0), (4, .int r4280), (3, .int r4278), (0, .ref (b 0)), (1, .int x0), (2, .int y44_l2)]) hx hb dX12_ways_65 hl (by decide) rfl (fun ls hl => ?_)
        exact lp67 12 r4278 r4280 (0 : Int32) v _ _ ls g44_l1 g4277 hr4278.1 (show Rg 0 4095 r4280 from rg_w hr4280 (by decide) (by decide)) (by decide : Rg 0 11 (0 : Int32)) hV hP hD hS (lv_sub (l' := [(0, .ref (b 0)), (1, .int x0), (2, .int y44_l2), (3, .int r4278), (4, .int r4280), (5, .int 0)]) hl [3, 4, 5, 2, 1, 0] rfl) (me_i (by decide : Rg 0 11 (0 : Int32)) (by decide))
  have lp15 : ∀ (n15 : Nat) (y15_l2 : Int32) (v : SU) (H : Heap) (locs : List Loc) (ls : Array Slot), Rg 0 6 x0 → Rg 0 11 y15_l2 → TyV v → va_P D cls (wM cI b L v) H → va_D A (wM cI b L v) → va_S A s.heap H locs → lv_has ls 7 [(0, .ref (b 0)), (1, .int x0), (2, .int y15_l2)] → 11 - y15_l2.toInt < (n15 : Int) → W p l e (headSpec wsX12_ways ({ frames := 2, cells := 0, slots := 0, locals := 80 })).room s m ([.ref (b 0), .int x0]).toArray below meth c H locs 0 0 (MQ below (QF (S := SU) D (wM cI b L v0) (wM cI b L) s.heap.size (fun r u => TyV u ∧ Rg (-2147483648) 2147483647 r ∧ True)) ([.ref (b 0), .int x0]).toArray s 0 0 (va_A (wM cI b L v0) s.heap.size)) (F0 m 15 ls []) := by
    intro n15
    induction n15 with
    | zero =>
      intro y15_l2 v H locs ls g15_l1 g15_l2 hV hP hD hS hl hm15
      exact absurd rfl (me_z g15_l2 hm15)
    | succ n15 ih15 =>
      intro y15_l2 v H locs ls g15_l1 g15_l2 hV hP hD hS hl hm15
      refine lv_iload_n hx hb dX12_ways_15 rfl (lv_at hl 2 rfl) ?_
      refine lv_bipush (v := 7) hx hb dX12_ways_16 (by decide) ?_
      refine lv_icmp_ge (tgt := 42) hx hb dX12_ways_18 (by decide) (fun c4281 => ?_) (fun c4281 => ?_)
      · have g4282 : Rg 7 11 y15_l2 := rg_ler (by decide : Rg 7 7 (7 : Int32)) g15_l2 c4281 (by decide)
        refine lv_iconst (v := 1) hx hb dX12_ways_42 (by decide) ?_
        refine lv_istore_n (lv' := [(2, .int 1), (0, .ref (b 0)), (1, .int x0)]) hx hb dX12_ways_43 rfl hl (by decide) rfl (fun ls hl => ?_)
        exact lp44 4096 (1 : Int32) v _ _ ls g15_l1 (by decide : Rg 1 4096 (1 : Int32)) hV hP hD hS (lv_sub (l' := [(0, .ref (b 0)), (1, .int x0), (2, .int 1)]) hl [1, 2, 0] rfl) (me_i (by decide : Rg 1 4096 (1 : Int32)) (by decide))
      · have g4283 : Rg 0 6 y15_l2 := rg_ltl g15_l2 (by decide : Rg 7 7 (7 : Int32)) (rg_nle c4281) (by decide)
        refine lv_aload_n hx hb dX12_ways_21 rfl (lv_at hl 0 rfl) ?_
        refine va_get (D := D) (ci := 12) (v := .ref (b 4)) (C := RX12) (T := TX12) (N := 24) hx hb hts hin12 hown hK hP 0 rfl rfl 5 (by decide) (hts (.fieldLink RX12 23 "MissedPointsModel" "sizedWays" "[I") (by decide +kernel)) (fun _ h9 => h9) rfl dX12_ways_22 ?_
        refine lv_iload_n hx hb dX12_ways_25 rfl (lv_at hl 2 rfl) ?_
        refine lv_iload_n hx hb dX12_ways_26 rfl (lv_at hl 2 rfl) ?_
        refine lv_if_ne (tgt := 34) hx hb dX12_ways_27 (by decide) (fun c4284 => ?_) (fun c4284 => ?_)
        · have g4285 : Rg 1 6 y15_l2 := rg_ne_lo (k := 0) g4283 (by decide) c4284 (by decide)
          refine lv_iconst (v := 0) hx hb dX12_ways_34 (by decide) ?_
          refine ms_4 hx hb hK hP hD hS hV rfl (rg_in g4285 (by decide) (by decide)) dX12_ways_35 (fun v H locs hV ev4286 hP hD hS => ?_)
          refine wk_iinc (lv' := fun r => [(2, .int r), (0, .ref (b 0)), (1, .int x0)]) (e1 := 2) (f := 7) hx hb dX12_ways_36 hl (k := 2) rfl (by decide) g4285 (by decide) (fun _ => rfl) (fun r4287 ls hr4287 er4287 hl => ?_)
          refine lv_goto (tgt := 15) hx hb dX12_ways_39 (by decide) ?_
          exact ih15 r4287 v _ _ ls g15_l1 (show Rg 0 11 r4287 from rg_w hr4287 (by decide) (by decide)) hV hP hD hS (lv_sub (l' := [(0, .ref (b 0)), (1, .int x0), (2, .int r4287)]) hl [1, 2, 0] rfl) (me_up hm15 er4287 (by decide))
        · have g4288 : Rg 0 0 y15_l2 := wk_eql g4283 (by decide : Rg 0 0 (0 : Int32)) c4284 (by decide)
          refine lv_iconst (v := 1) hx hb dX12_ways_30 (by decide) ?_
          refine lv_goto (tgt := 35) hx hb dX12_ways_31 (by decide) ?_
          refine ms_4 hx hb hK hP hD hS hV rfl (rg_in g4288 (by decide) (by decide)) dX12_ways_35 (fun v H locs hV ev4289 hP hD hS => ?_)
          refine wk_iinc (lv' := fun r => [(2, .int r), (0, .ref (b 0)), (1, .int x0)]) (e1 := 1) (f := 1) hx hb dX12_ways_36 hl (k := 2) rfl (by decide) g4288 (by decide) (fun _ => rfl) (fun r4290 ls hr4290 er4290 hl => ?_)
          refine lv_goto (tgt := 15) hx hb dX12_ways_39 (by decide) ?_
          exact ih15 r4290 v _ _ ls g15_l1 (show Rg 0 11 r4290 from rg_w hr4290 (by decide) (by decide)) hV hP hD hS (lv_sub (l' := [(0, .ref (b 0)), (1, .int x0), (2, .int r4290)]) hl [1, 2, 0] rfl) (me_up hm15 er4290 (by decide))
  refine lv_iload_n hx hb dX12_ways_0 rfl (lv_at hl 1 rfl) ?_
  refine lv_iconst (v := 0) hx hb dX12_ways_1 (by decide) ?_
  refine lv_bipush (v := 6) hx hb dX12_ways_2 (by decide) ?_
  refine lz_ss (As := [.int x0, .int 0, .int 6]) (rest := []) ⟨hx, hb, hml, hown, hts⟩ (w_X12_in l D cI cS x0 (0 : Int32) (6 : Int32)) hKK (hP.sub (ws' := []) [] rfl) (va_cwS 3 hts gX12_ways_X12_in rfl rfl rfl (by decide +kernel) ⟨Nat.le_of_ble_eq_true rfl, Nat.le_of_ble_eq_true rfl⟩) rfl hl.1 rfl (Nat.le_of_ble_eq_true rfl) dX12_ways_4 ⟨Nat.le_of_ble_eq_true rfl, Nat.le_of_ble_eq_true rfl⟩ (fun r4291 hr4291 => ?_)
  refine lv_if_ne (tgt := 13) hx hb dX12_ways_7 (by decide) (fun c4292 => ?_) (fun c4292 => ?_)
  · have zn4293 : (0 : Int32).toInt ≤ x0.toInt ∧ x0.toInt ≤ (6 : Int32).toInt := (hr4291.2.2 c4292)
    have g4294 : Rg 0 6 x0 := wk_in3 (rg_any x0) (by decide : Rg 0 0 (0 : Int32)) (by decide : Rg 6 6 (6 : Int32)) (hr4291.2.2 c4292) (by decide)
    have g4295 : Rg 1 1 r4291 := rg_ne_lo (k := 0) hr4291.1 (by decide) c4292 (by decide)
    refine lv_iconst (v := 0) hx hb dX12_ways_13 (by decide) ?_
    refine lv_istore_n (lv' := [(2, .int 0), (0, .ref (b 0)), (1, .int x0)]) hx hb dX12_ways_14 rfl hl (by decide) rfl (fun ls hl => ?_)
    exact lp15 12 (0 : Int32) v _ _ ls g4294 (by decide : Rg 0 11 (0 : Int32)) hV hP hD hS (lv_sub (l' := [(0, .ref (b 0)), (1, .int x0), (2, .int 0)]) hl [1, 2, 0] rfl) (me_i (by decide : Rg 0 11 (0 : Int32)) (by decide))
  · have zt4296 : (x0.toInt < (0 : Int32).toInt ∨ (6 : Int32).toInt < x0.toInt) := hr4291.2.1 c4292
    have g4297 : Rg 0 0 r4291 := wk_eql hr4291.1 (by decide : Rg 0 0 (0 : Int32)) c4292 (by decide)
    refine lv_bipush (v := (-2)) hx hb dX12_ways_10 (by decide) ?_
    subst hAe
    exact W.iret (v := (-2)) hx hb hr (fun t ht hW => ⟨⟨_, v, rfl, ⟨hV, (by decide : Rg (-2147483648) 2147483647 ((-2) : Int32)), trivial⟩, by rw [ht]; exact hP, hD⟩, hS.F ht⟩) hS.2.2 dX12_ways_12
set_option maxRecDepth 20000 in
theorem ggX12_isLoose_X12_all : GoodIn wsX12_isLoose wsX12_all := goodIn_r _ [6, 7, 8, 9, 10, 11, 12, 13, 14, 15, 16, 17, 18, 19, 20, 21, 22, 23, 24, 25, 26, 27, 28, 29, 30, 31] rfl (by decide +kernel)
set_option maxRecDepth 20000 in
theorem gX12_isLoose_X12_all : GoodIn wsX12_isLoose (wsV RX12 70 RX12 yX12_all wsX12_all) := goodIn_app (goodIn_of _ (by decide +kernel)) ggX12_isLoose_X12_all
theorem dX12_isLoose_0 : decode cX12_isLoose 0 = .ok (.aload_n 0, 1) := by decide +kernel
theorem dX12_isLoose_1 : decode cX12_isLoose 1 = .ok (.getfield 17, 3) := by decide +kernel
theorem dX12_isLoose_10 : decode cX12_isLoose 10 = .ok (.ishl, 1) := by decide +kernel
theorem dX12_isLoose_11 : decode cX12_isLoose 11 = .ok (.iconst (-1), 1) := by decide +kernel
theorem dX12_isLoose_12 : decode cX12_isLoose 12 = .ok (.ixor, 1) := by decide +kernel
theorem dX12_isLoose_13 : decode cX12_isLoose 13 = .ok (.iand, 1) := by decide +kernel
theorem dX12_isLoose_14 : decode cX12_isLoose 14 = .ok (.iaload, 1) := by decide +kernel
theorem dX12_isLoose_15 : decode cX12_isLoose 15 = .ok (.aload_n 0, 1) := by decide +kernel
theorem dX12_isLoose_16 : decode cX12_isLoose 16 = .ok (.getfield 17, 3) := by decide +kernel
theorem dX12_isLoose_19 : decode cX12_isLoose 19 = .ok (.aload_n 0, 1) := by decide +kernel
theorem dX12_isLoose_20 : decode cX12_isLoose 20 = .ok (.invokevirtual 70, 3) := by decide +kernel
theorem dX12_isLoose_23 : decode cX12_isLoose 23 = .ok (.iaload, 1) := by decide +kernel
theorem dX12_isLoose_24 : decode cX12_isLoose 24 = .ok (.if_icmp .ne 7, 3) := by decide +kernel
theorem dX12_isLoose_27 : decode cX12_isLoose 27 = .ok (.iconst 1, 1) := by decide +kernel
theorem dX12_isLoose_28 : decode cX12_isLoose 28 = .ok (.goto 4, 3) := by decide +kernel
theorem dX12_isLoose_31 : decode cX12_isLoose 31 = .ok (.iconst 0, 1) := by decide +kernel
theorem dX12_isLoose_32 : decode cX12_isLoose 32 = .ok (.ireturn, 1) := by decide +kernel
theorem dX12_isLoose_4 : decode cX12_isLoose 4 = .ok (.aload_n 0, 1) := by decide +kernel
theorem dX12_isLoose_5 : decode cX12_isLoose 5 = .ok (.invokevirtual 70, 3) := by decide +kernel
theorem dX12_isLoose_8 : decode cX12_isLoose 8 = .ok (.iconst 1, 1) := by decide +kernel
theorem dX12_isLoose_9 : decode cX12_isLoose 9 = .ok (.iload_n 1, 1) := by decide +kernel
set_option maxHeartbeats 4000000 in
set_option maxRecDepth 100000 in
theorem w_X12_isLoose (l : Launch) (D : va_G) (cI cS : ClassId) (b : Nat → Nat) (L v : SU) (hL : TyL L) (hV : TyV v) (x0 : Int32) : Met l yX12_isLoose wsX12_isLoose ({ frames := 1, cells := 0, slots := 0, locals := 40 }) (PS D cI cS (wM cI b L v) [.ref (b 0), .int x0]) (vp_Si (fun r => Rg 0 1 r ∧ True)) 0 0 (fun _ => False) := by
  refine Met.ofW (cc := cX12_isLoose) (maxL := 2) (ret := (some .boolean)) (by decide) rfl ?_
  intro p e s m args below meth c s₁ B hml hv
  obtain ⟨rfl, hP, hKK⟩ := hv
  have hx := B.exec
  have hb := B.bytes
  have hr := B.returns
  have hts := atoms_spec (ws := wsX12_isLoose) B.pre
  have hown : s.vm.findClass RX12 = some m.cls := findClass_of_methodNamed B.named
  have hlocks := B.notSynchronized
  have hK := hKK.1
  have hin12 : ∀ w ∈ wsX120, w ∈ wsX12_isLoose := by decide +kernel
  have hl := lv_entry ([.ref (b 0), .int x0]) (n := 2) (Nat.le_of_ble_eq_true rfl)
  rw [lg_entry_eq]
  generalize (lg_sl ([.ref (b 0), .int x0]) ++ List.replicate (2 - (lg_sl ([.ref (b 0), .int x0])).length) Slot.unset).toArray = ls at hl ⊢
  have hl : lv_has ls 2 [(0, .ref (b 0)), (1, .int x0)] := hl
  refine lv_aload_n hx hb dX12_isLoose_0 rfl (lv_at hl 0 rfl) ?_
  refine va_get (D := D) (ci := 12) (v := .ref (b 2)) (C := RX12) (T := TX12) (N := 24) hx hb hts hin12 hown hK hP 0 rfl rfl 3 (by decide) (hts (.fieldLink RX12 17 "MissedPointsModel" "pairs" "[I") (by decide +kernel)) (fun _ h9 => h9) rfl dX12_isLoose_1 ?_
  refine lv_aload_n hx hb dX12_isLoose_4 rfl (lv_at hl 0 rfl) ?_
  refine wk_sv 0 (As := []) (rest := [.ref (b 2)]) ⟨hx, hb, hml, hown, hts⟩ (w_X12_all l D cI cS b L v hL hV) hKK hP (ci := 12) rfl rfl (cwV 0 hts gX12_isLoose_X12_all rfl rfl rfl (by decide +kernel) ⟨Nat.le_of_ble_eq_true rfl, Nat.le_of_ble_eq_true rfl⟩) rfl hl.1 rfl (Nat.le_of_ble_eq_true rfl) dX12_isLoose_5 ⟨Nat.le_of_ble_eq_true rfl, Nat.le_of_ble_eq_true rfl⟩ (fun r4306 hr4306 => ?_)
  refine lv_iconst (v := 1) hx hb dX12_isLoose_8 (by decide) ?_
  refine lv_iload_n hx hb dX12_isLoose_9 rfl (lv_at hl 1 rfl) ?_
  refine lv_ishl hx hb dX12_isLoose_10 ?_
  refine wk_topP (P := fun r => r = (1 : Int32) <<< (x0 &&& 31)) rfl (fun r4307 qr4307 => ?_)
  refine lv_iconst (v := (-1)) hx hb dX12_isLoose_11 (by decide) ?_
  refine lv_ixor hx hb dX12_isLoose_12 ?_
  refine wk_topP (P := fun r => r = r4307 ^^^ ((-1) : Int32)) rfl (fun r4308 qr4308 => ?_)
  refine wk_iandl hx hb dX12_isLoose_13 hr4306.1 (by decide) (fun r4309 hr4309 qr4309 => ?_)
  refine wk_aldA hx hb hK hP 2 0 rfl rfl (rg_in hr4309 (by decide) (by decide)) dX12_isLoose_14 (fun r4310 => ?_)
  refine lv_aload_n hx hb dX12_isLoose_15 rfl (lv_at hl 0 rfl) ?_
  refine va_get (D := D) (ci := 12) (v := .ref (b 2)) (C := RX12) (T := TX12) (N := 24) hx hb hts hin12 hown hK hP 0 rfl rfl 3 (by decide) (hts (.fieldLink RX12 17 "MissedPointsModel" "pairs" "[I") (by decide +kernel)) (fun _ h9 => h9) rfl dX12_isLoose_16 ?_
  refine lv_aload_n hx hb dX12_isLoose_19 rfl (lv_at hl 0 rfl) ?_
  refine wk_sv 0 (As := []) (rest := [.ref (b 2), .int r4310]) ⟨hx, hb, hml, hown, hts⟩ (w_X12_all l D cI cS b L v hL hV) hKK hP (ci := 12) rfl rfl (cwV 0 hts gX12_isLoose_X12_all rfl rfl rfl (by decide +kernel) ⟨Nat.le_of_ble_eq_true rfl, Nat.le_of_ble_eq_true rfl⟩) rfl hl.1 rfl (Nat.le_of_ble_eq_true rfl) dX12_isLoose_20 ⟨Nat.le_of_ble_eq_true rfl, Nat.le_of_ble_eq_true rfl⟩ (fun r4311 hr4311 => ?_)
  refine wk_aldA hx hb hK hP 2 0 rfl rfl (rg_in hr4311.1 (by decide) (by decide)) dX12_isLoose_23 (fun r4312 => ?_)
  refine lv_icmp_ne (tgt := 31) hx hb dX12_isLoose_24 (by decide) (fun c4313 => ?_) (fun c4313 => ?_)
  · refine lv_iconst (v := 0) hx hb dX12_isLoose_31 (by decide) ?_
    exact W.zret (v := 0) hx hb hr (by decide) (fun t ht hW => ⟨_, rfl, ⟨(by decide : Rg 0 1 (0 : Int32)), trivial⟩, ht⟩) (fun q hq => absurd hq List.not_mem_nil) dX12_isLoose_32
  · refine lv_iconst (v := 1) hx hb dX12_isLoose_27 (by decide) ?_
    refine lv_goto (tgt := 32) hx hb dX12_isLoose_28 (by decide) ?_
    exact W.zret (v := 1) hx hb hr (by decide) (fun t ht hW => ⟨_, rfl, ⟨(by decide : Rg 0 1 (1 : Int32)), trivial⟩, ht⟩) (fun q hq => absurd hq List.not_mem_nil) dX12_isLoose_32
set_option maxRecDepth 20000 in
theorem ggX12_markedSet_X12_isLoose : GoodIn wsX12_markedSet wsX12_isLoose := goodIn_r _ [7, 8, 9, 10, 11, 6, 12, 1, 13, 14, 15, 16, 17, 18, 19, 20, 21, 22, 23, 24, 25, 26, 27, 28, 29, 30, 31, 32, 33, 34, 35, 36] rfl (by decide +kernel)
set_option maxRecDepth 20000 in
theorem gX12_markedSet_X12_isLoose : GoodIn wsX12_markedSet (wsV RX12 119 RX12 yX12_isLoose wsX12_isLoose) := goodIn_app (goodIn_of _ (by decide +kernel)) ggX12_markedSet_X12_isLoose
theorem dX12_markedSet_16 : decode cX12_markedSet 16 = .ok (.iload_n 2, 1) := by decide +kernel
theorem dX12_markedSet_17 : decode cX12_markedSet 17 = .ok (.aload_n 0, 1) := by decide +kernel
theorem dX12_markedSet_18 : decode cX12_markedSet 18 = .ok (.iload 4, 2) := by decide +kernel
theorem dX12_markedSet_20 : decode cX12_markedSet 20 = .ok (.invokevirtual 119, 3) := by decide +kernel
theorem dX12_markedSet_23 : decode cX12_markedSet 23 = .ok (.ifCond .eq 10, 3) := by decide +kernel
theorem dX12_markedSet_26 : decode cX12_markedSet 26 = .ok (.iconst 1, 1) := by decide +kernel
theorem dX12_markedSet_27 : decode cX12_markedSet 27 = .ok (.iload 4, 2) := by decide +kernel
theorem dX12_markedSet_29 : decode cX12_markedSet 29 = .ok (.ishl, 1) := by decide +kernel
theorem dX12_markedSet_30 : decode cX12_markedSet 30 = .ok (.goto 4, 3) := by decide +kernel
theorem dX12_markedSet_33 : decode cX12_markedSet 33 = .ok (.iconst 0, 1) := by decide +kernel
theorem dX12_markedSet_34 : decode cX12_markedSet 34 = .ok (.ior, 1) := by decide +kernel
theorem dX12_markedSet_35 : decode cX12_markedSet 35 = .ok (.istore_n 2, 1) := by decide +kernel
theorem dX12_markedSet_36 : decode cX12_markedSet 36 = .ok (.iload_n 3, 1) := by decide +kernel
theorem dX12_markedSet_37 : decode cX12_markedSet 37 = .ok (.aload_n 0, 1) := by decide +kernel
theorem dX12_markedSet_38 : decode cX12_markedSet 38 = .ok (.iload 4, 2) := by decide +kernel
theorem dX12_markedSet_40 : decode cX12_markedSet 40 = .ok (.invokevirtual 119, 3) := by decide +kernel
theorem dX12_markedSet_43 : decode cX12_markedSet 43 = .ok (.ifCond .eq 13, 3) := by decide +kernel
theorem dX12_markedSet_46 : decode cX12_markedSet 46 = .ok (.aload_n 0, 1) := by decide +kernel
theorem dX12_markedSet_47 : decode cX12_markedSet 47 = .ok (.getfield 13, 3) := by decide +kernel
theorem dX12_markedSet_50 : decode cX12_markedSet 50 = .ok (.iload 4, 2) := by decide +kernel
theorem dX12_markedSet_52 : decode cX12_markedSet 52 = .ok (.iaload, 1) := by decide +kernel
theorem dX12_markedSet_53 : decode cX12_markedSet 53 = .ok (.goto 4, 3) := by decide +kernel
theorem dX12_markedSet_56 : decode cX12_markedSet 56 = .ok (.iconst 0, 1) := by decide +kernel
theorem dX12_markedSet_57 : decode cX12_markedSet 57 = .ok (.ior, 1) := by decide +kernel
theorem dX12_markedSet_58 : decode cX12_markedSet 58 = .ok (.istore_n 3, 1) := by decide +kernel
theorem dX12_markedSet_59 : decode cX12_markedSet 59 = .ok (.iinc 4 1, 3) := by decide +kernel
theorem dX12_markedSet_62 : decode cX12_markedSet 62 = .ok (.goto (-55), 3) := by decide +kernel
set_option maxHeartbeats 4000000 in
set_option maxRecDepth 100000 in
theorem w_X12_markedSet (l : Launch) (D : va_G) (cI cS : ClassId) (b : Nat → Nat) (L v : SU) (hL : TyL L) (hV : TyV v) (x0 : Int32) : Met l yX12_markedSet wsX12_markedSet ({ frames := 2, cells := 0, slots := 0, locals := 80 }) (PS D cI cS (wM cI b L v) [.ref (b 0), .int x0]) (vp_Si (fun r => Rg 0 4095 r ∧ True)) 0 0 (fun _ => False) := by
  refine Met.ofW (cc := cX12_markedSet) (maxL := 5) (ret := (some .int)) (by decide) rfl ?_
  intro p e s m args below meth c s₁ B hml hv
  obtain ⟨rfl, hP, hKK⟩ := hv
  have hx := B.exec
  have hb := B.bytes
  have hr := B.returns
  have hts := atoms_spec (ws := wsX12_markedSet) B.pre
  have hown : s.vm.findClass RX12 = some m.cls := findClass_of_methodNamed B.named
  have hlocks := B.notSynchronized
  have hK := hKK.1
  have hin12 : ∀ w ∈ wsX120, w ∈ wsX12_markedSet := by decide +kernel
  have hl := lv_entry ([.ref (b 0), .int x0]) (n := 5) (Nat.le_of_ble_eq_true rfl)
  rw [lg_entry_eq]
  generalize (lg_sl ([.ref (b 0), .int x0]) ++ List.replicate (5 - (lg_sl ([.ref (b 0), .int x0])).length) Slot.unset).toArray = ls at hl ⊢
  have hl : lv_has ls 5 [(0, .ref (b 0)), (1, .int x0)] := hl
  have lp7 : ∀ (n7 : Nat) (y7_l2 : Int32) (y7_l3 : Int32) (y7_l4 : Int32) (ls : Array Slot), Rg 0 4095 y7_l2 → Rg 0 4095 y7_l3 → Rg 0 12 y7_l4 → lv_has ls 5 [(0, .ref (b 0)), (1, .int x0), (2, .int y7_l2), (3, .int y7_l3), (4, .int y7_l4)] → 12 - y7_l4.toInt < (n7 : Int) → W p l e (headSpec wsX12_markedSet ({ frames := 2, cells := 0, slots := 0, locals := 80 })).room s m ([.ref (b 0), .int x0]).toArray below meth c s.heap [] 0 0 (MQ below (vp_Si (fun r => Rg 0 4095 r ∧ True)) ([.ref (b 0), .int x0]).toArray s 0 0 (fun _ => False)) (F0 m 7 ls []) := by
    intro n7
    induction n7 with
    | zero =>
      intro y7_l2 y7_l3 y7_l4 ls g7_l2 g7_l3 g7_l4 hl hm7
      exact absurd rfl (me_z g7_l4 hm7)
    | succ n7 ih7 =>
      intro y7_l2 y7_l3 y7_l4 ls g7_l2 g7_l3 g7_l4 hl hm7
      have ct34 : ∀ (y34_s0 : Int32) (ls : Array Slot), Rg 0 4095 y7_l3 → Rg 0 11 y7_l4 → Rg 0 4095 y34_s0 → Rg 0 4095 y7_l2 → lv_has ls 5 [(0, .ref (b 0)), (1, .int x0), (3, .int y7_l3), (4, .int y7_l4)] → W p l e (headSpec wsX12_markedSet ({ frames := 2, cells := 0, slots := 0, locals := 80 })).room s m ([.ref (b 0), .int x0]).toArray below meth c s.heap [] 0 0 (MQ below (vp_Si (fun r => Rg 0 4095 r ∧ True)) ([.ref (b 0), .int x0]).toArray s 0 0 (fun _ => False)) (F0 m 34 ls [.int y34_s0, .int y7_l2]) := by
        intro y34_s0 ls g34_l3 g34_l4 g34_s0 g34_s1 hl
        refine wk_ior 12 (e1 := 0) (f := 4095) hx hb dX12_markedSet_34 g34_s1 g34_s0 (by decide) (fun r4686 hr4686 qr4686 => ?_)
        refine lv_istore_n (lv' := [(2, .int r4686), (0, .ref (b 0)), (1, .int x0), (3, .int y7_l3), (4, .int y7_l4)]) hx hb dX12_markedSet_35 rfl hl (by decide) rfl (fun ls hl => ?_)
        refine lv_iload_n hx hb dX12_markedSet_36 rfl (lv_at hl 3 rfl) ?_
        refine lv_aload_n hx hb dX12_markedSet_37 rfl (lv_at hl 1 rfl) ?_
        refine lv_iload hx hb dX12_markedSet_38 (lv_at hl 4 rfl) ?_
        refine wk_sv 0 (As := [.int y7_l4]) (rest := [.int y7_l3]) ⟨hx, hb, hml, hown, hts⟩ (w_X12_isLoose l D cI cS b L v hL hV y7_l4) hKK hP (ci := 12) rfl rfl (cwV 1 hts gX12_markedSet_X12_isLoose rfl rfl rfl (by decide +kernel) ⟨Nat.le_of_ble_eq_true rfl, Nat.le_of_ble_eq_true rfl⟩) rfl hl.1 rfl (Nat.le_of_ble_eq_true rfl) dX12_markedSet_40 ⟨Nat.le_of_ble_eq_true rfl, Nat.le_of_ble_eq_true rfl⟩ (fun r4687 hr4687 => ?_)
        refine lv_if_eq (tgt := 56) hx hb dX12_markedSet_43 (by decide) (fun c4688 => ?_) (fun c4688 => ?_)
        · have g4689 : Rg 0 0 r4687 := wk_eql hr4687.1 (by decide : Rg 0 0 (0 : Int32)) c4688 (by decide)
          refine lv_iconst (v := 0) hx hb dX12_markedSet_56 (by decide) ?_
          refine wk_ior 12 (e1 := 0) (f := 4095) hx hb dX12_markedSet_57 g34_l3 (by decide : Rg 0 0 (0 : Int32)) (by decide) (fun r4690 hr4690 qr4690 => ?_)
          refine lv_istore_n (lv' := [(3, .int r4690), (2, .int r4686), (0, .ref (b 0)), (1, .int x0), (4, .int y7_l4)]) hx hb dX12_markedSet_58 rfl hl (by decide) rfl (fun ls hl => ?_)
          refine wk_iinc (lv' := fun r => [(4, .int r), (3, .int r4690), (2, .int r4686), (0, .ref (b 0)), (1, .int x0)]) (e1 := 1) (f := 12) hx hb dX12_markedSet_59 hl (k := 4) rfl (by decide) g34_l4 (by decide) (fun _ => rfl) (fun r4691 ls hr4691 er4691 hl => ?_)
          refine lv_goto (tgt := 7) hx hb dX12_markedSet_62 (by decide) ?_
          exact ih7 r4686 r4690 r4691 ls hr4686 hr4690 (show Rg 0 12 r4691 from rg_w hr4691 (by decide) (by decide)) (lv_sub (l' := [(0, .ref (b 0)), (1, .int x0), (2, .int r4686), (3, .int r4690), (4, .int r4691)]) hl [3, 4, 2, 1, 0] rfl) (me_up hm7 er4691 (by decide))
        · have g4692 : Rg 1 1 r4687 := rg_ne_lo (k := 0) hr4687.1 (by decide) c4688 (by decide)
          refine lv_aload_n hx hb dX12_markedSet_46 rfl (lv_at hl 1 rfl) ?_
          refine va_get (D := D) (ci := 12) (v := .ref (b 1)) (C := RX12) (T := TX12) (N := 24) hx hb hts hin12 hown hK hP 0 rfl rfl 2 (by decide) (hts (.fieldLink RX12 13 "MissedPointsModel" "near" "[I") (by decide +kernel)) (fun _ h9 => h9) rfl dX12_markedSet_47 ?_
          refine lv_iload hx hb dX12_markedSet_50 (lv_at hl 4 rfl) ?_
          refine wk_ald hx hb hK hP 1 0 rfl rfl (rg_in g34_l4 (by decide) (by decide)) dX12_markedSet_52 hV.1 (fun r4693 hr4693 => ?_)
          refine lv_goto (tgt := 57) hx hb dX12_markedSet_53 (by decide) ?_
          refine wk_ior 12 (e1 := 0) (f := 4095) hx hb dX12_markedSet_57 g34_l3 hr4693 (by decide) (fun r4694 hr4694 qr4694 => ?_)
          refine lv_istore_n (lv' := [(3, .int r4694), (2, .int r4686), (0, .ref (b 0)), (1, .int x0), (4, .int y7_l4)]) hx hb dX12_markedSet_58 rfl hl (by decide) rfl (fun ls hl => ?_)
          refine wk_iinc (lv' := fun r => [(4, .int r), (3, .int r4694), (2, .int r4686), (0, .ref (b 0)), (1, .int x0)]) (e1 := 1) (f := 12) hx hb dX12_markedSet_59 hl (k := 4) rfl (by decide) g34_l4 (by decide) (fun _ => rfl) (fun r4695 ls hr4695 er4695 hl => ?_)
          refine lv_goto (tgt := 7) hx hb dX12_markedSet_62 (by decide) ?_
          exact ih7 r4686 r4694 r4695 ls hr4686 hr4694 (show Rg 0 12 r4695 from rg_w hr4695 (by decide) (by decide)) (lv_sub (l' := [(0, .ref (b 0)), (1, .int x0), (2, .int r4686), (3, .int r4694), (4, .int r4695)]) hl [3, 4, 2, 1, 0] rfl) (me_up hm7 er4695 (by decide))
      refine lv_iload hx hb dX12_markedSet_7 (lv_at hl 4 rfl) ?_
      refine lv_aload_n hx hb dX12_markedSet_9 rfl (lv_at hl 0 rfl) ?_
      refine va_get (D := D) (ci := 12) (v := .int (L 0 0)) (C := RX12) (T := TX12) (N := 24) hx hb hts hin12 hown hK hP 0 rfl rfl 0 (by decide) (hts (.fieldLink RX12 63 "MissedPointsModel" "many" "I") (by decide +kernel)) (fun _ h9 => h9) rfl dX12_markedSet_10 ?_
      refine lv_icmp_ge (tgt := 65) hx hb dX12_markedSet_13 (by decide) (fun c4696 => ?_) (fun c4696 => ?_)
      · refine lv_iload_n hx hb dX12_markedSet_65 rfl (lv_at hl 3 rfl) ?_
        refine lv_iload_n hx hb dX12_markedSet_66 rfl (lv_at hl 2 rfl) ?_
        refine lv_iconst (v := (-1)) hx hb dX12_markedSet_67 (by decide) ?_
        refine lv_ixor hx hb dX12_markedSet_68 ?_
        refine wk_topP (P := fun r => r = y7_l2 ^^^ ((-1) : Int32)) rfl (fun r4697 qr4697 => ?_)
        refine wk_iandl hx hb dX12_markedSet_69 g7_l3 (by decide) (fun r4698 hr4698 qr4698 => ?_)
        refine lv_istore (lv' := [(4, .int r4698), (0, .ref (b 0)), (1, .int x0), (2, .int y7_l2), (3, .int y7_l3)]) hx hb dX12_markedSet_70 hl (by decide) rfl (fun ls hl => ?_)
        refine lv_iload_n hx hb dX12_markedSet_72 rfl (lv_at hl 2 rfl) ?_
        refine lv_if_ne (tgt := 80) hx hb dX12_markedSet_73 (by decide) (fun c4699 => ?_) (fun c4699 => ?_)
        · refine lv_iload_n hx hb dX12_markedSet_80 rfl (lv_at hl 2 rfl) ?_
          refine lv_iconst (v := 1) hx hb dX12_markedSet_81 (by decide) ?_
          refine lv_icmp_ne (tgt := 90) hx hb dX12_markedSet_82 (by decide) (fun c4700 => ?_) (fun c4700 => ?_)
          · refine lv_aload_n hx hb dX12_markedSet_90 rfl (lv_at hl 1 rfl) ?_
            refine wk_sv 0 (As := []) (rest := []) ⟨hx, hb, hml, hown, hts⟩ (w_X12_all l D cI cS b L v hL hV) hKK hP (ci := 12) rfl rfl (cwV 0 hts gX12_markedSet_X12_all rfl rfl rfl (by decide +kernel) ⟨Nat.le_of_ble_eq_true rfl, Nat.le_of_ble_eq_true rfl⟩) rfl hl.1 rfl (Nat.le_of_ble_eq_true rfl) dX12_markedSet_91 ⟨Nat.le_of_ble_eq_true rfl, Nat.le_of_ble_eq_true rfl⟩ (fun r4701 hr4701 => ?_)
            refine lv_iload_n hx hb dX12_markedSet_94 rfl (lv_at hl 3 rfl) ?_
            refine lv_iconst (v := (-1)) hx hb dX12_markedSet_95 (by decide) ?_
            refine lv_ixor hx hb dX12_markedSet_96 ?_
            refine wk_topP (P := fun r => r = y7_l2 ^^^ ((-1) : Int32)) rfl (fun r4702 qr4702 => ?_)
            refine wk_iandl hx hb dX12_markedSet_97 hr4701.1 (by decide) (fun r4703 hr4703 qr4703 => ?_)
            refine lv_iload hx hb dX12_markedSet_98 (lv_at hl 0 rfl) ?_
            refine lv_iconst (v := (-1)) hx hb dX12_markedSet_100 (by decide) ?_
            refine lv_ixor hx hb dX12_markedSet_101 ?_
            refine wk_topP (P := fun r => r = r4698 ^^^ ((-1) : Int32)) rfl (fun r4704 qr4704 => ?_)
            refine wk_iandl hx hb dX12_markedSet_102 hr4703 (by decide) (fun r4705 hr4705 qr4705 => ?_)
            exact W.iret (v := r4705) hx hb hr (fun t ht hW => ⟨_, rfl, ⟨hr4705, trivial⟩, ht⟩) (fun q hq => absurd hq List.not_mem_nil) dX12_markedSet_103
          · have g4706 : Rg 1 1 x0 := wk_eql (rg_any x0) (by decide : Rg 1 1 (1 : Int32)) c4700 (by decide)
            refine lv_iload hx hb dX12_markedSet_85 (lv_at hl 0 rfl) ?_
            refine lv_goto (tgt := 103) hx hb dX12_markedSet_87 (by decide) ?_
            exact W.iret (v := r4698) hx hb hr (fun t ht hW => ⟨_, rfl, ⟨hr4698, trivial⟩, ht⟩) (fun q hq => absurd hq List.not_mem_nil) dX12_markedSet_103
        · have g4707 : Rg 0 0 x0 := wk_eql (rg_any x0) (by decide : Rg 0 0 (0 : Int32)) c4699 (by decide)
          refine lv_iload_n hx hb dX12_markedSet_76 rfl (lv_at hl 3 rfl) ?_
          refine lv_goto (tgt := 103) hx hb dX12_markedSet_77 (by decide) ?_
          exact W.iret (v := y7_l2) hx hb hr (fun t ht hW => ⟨_, rfl, ⟨g7_l2, trivial⟩, ht⟩) (fun q hq => absurd hq List.not_mem_nil) dX12_markedSet_103
      · have g4708 : Rg 1 12 (L 0 0) := rg_ltr g7_l4 hL.1 (rg_nle c4696) (by decide)
        have g4709 : Rg 0 11 y7_l4 := rg_ltl g7_l4 hL.1 (rg_nle c4696) (by decide)
        refine lv_iload_n hx hb dX12_markedSet_16 rfl (lv_at hl 2 rfl) ?_
        refine lv_aload_n hx hb dX12_markedSet_17 rfl (lv_at hl 0 rfl) ?_
        refine lv_iload hx hb dX12_markedSet_18 (lv_at hl 4 rfl) ?_
        refine wk_sv 0 (As := [.int y7_l4]) (rest := [.int y7_l2]) ⟨hx, hb, hml, hown, hts⟩ (w_X12_isLoose l D cI cS b L v hL hV y7_l4) hKK hP (ci := 12) rfl rfl (cwV 1 hts gX12_markedSet_X12_isLoose rfl rfl rfl (by decide +kernel) ⟨Nat.le_of_ble_eq_true rfl, Nat.le_of_ble_eq_true rfl⟩) rfl hl.1 rfl (Nat.le_of_ble_eq_true rfl) dX12_markedSet_20 ⟨Nat.le_of_ble_eq_true rfl, Nat.le_of_ble_eq_true rfl⟩ (fun r4710 hr4710 => ?_)
        refine lv_if_eq (tgt := 33) hx hb dX12_markedSet_23 (by decide) (fun c4711 => ?_) (fun c4711 => ?_)
        · have g4712 : Rg 0 0 r4710 := wk_eql hr4710.1 (by decide : Rg 0 0 (0 : Int32)) c4711 (by decide)
          refine lv_iconst (v := 0) hx hb dX12_markedSet_33 (by decide) ?_
          exact ct34 (0 : Int32) ls g7_l3 g4709 (by decide : Rg 0 4095 (0 : Int32)) g7_l2 (lv_sub (l' := [(0, .ref (b 0)), (1, .int x0), (3, .int y7_l3), (4, .int y7_l4)]) hl [0, 1, 3, 4] rfl)
        · have g4713 : Rg 1 1 r4710 := rg_ne_lo (k := 0) hr4710.1 (by decide) c4711 (by decide)
          refine lv_iconst (v := 1) hx hb dX12_markedSet_26 (by decide) ?_
          refine lv_iload hx hb dX12_markedSet_27 (lv_at hl 4 rfl) ?_
          refine wk_ishl1 (f := 2048) hx hb dX12_markedSet_29 g4709 (by decide) (fun r4714 hr4714 qr4714 => ?_)
          refine lv_goto (tgt := 34) hx hb dX12_markedSet_30 (by decide) ?_
          exact ct34 r4714 ls g7_l3 g4709 (show Rg 0 4095 r4714 from rg_w hr4714 (by decide) (by decide)) g7_l2 (lv_sub (l' := [(0, .ref (b 0)), (1, .int x0), (3, .int y7_l3), (4, .int y7_l4)]) hl [0, 1, 3, 4] rfl)
  refine lv_iconst (v := 0) hx hb dX12_markedSet_0 (by decide) ?_
  refine lv_istore_n (lv' := [(2, .int 0), (0, .ref (b 0)), (1, .int x0)]) hx hb dX12_markedSet_1 rfl hl (by decide) rfl (fun ls hl => ?_)
  refine lv_iconst (v := 0) hx hb dX12_markedSet_2 (by decide) ?_
  refine lv_istore_n (lv' := [(3, .int 0), (2, .int 0), (0, .ref (b 0)), (1, .int x0)]) hx hb dX12_markedSet_3 rfl hl (by decide) rfl (fun ls hl => ?_)
  refine lv_iconst (v := 0) hx hb dX12_markedSet_4 (by decide) ?_
  refine lv_istore (lv' := [(4, .int 0), (3, .int 0), (2, .int 0), (0, .ref (b 0)), (1, .int x0)]) hx hb dX12_markedSet_5 hl (by decide) rfl (fun ls hl => ?_)
  exact lp7 13 (0 : Int32) (0 : Int32) (0 : Int32) ls (by decide : Rg 0 4095 (0 : Int32)) (by decide : Rg 0 4095 (0 : Int32)) (by decide : Rg 0 12 (0 : Int32)) (lv_sub (l' := [(0, .ref (b 0)), (1, .int x0), (2, .int 0), (3, .int 0), (4, .int 0)]) hl [3, 4, 2, 1, 0] rfl) (me_i (by decide : Rg 0 12 (0 : Int32)) (by decide))
set_option maxRecDepth 20000 in
theorem ggX12_mark_X12_has : GoodIn wsX12_mark wsX12_has := goodIn_r _ [26] rfl (by decide +kernel)
set_option maxRecDepth 20000 in
theorem gX12_mark_X12_has : GoodIn wsX12_mark (va_wsS RX12 59 yX12_has wsX12_has) := goodIn_app (goodIn_of _ (by decide +kernel)) ggX12_mark_X12_has
set_option maxRecDepth 20000 in
theorem ggX12_mark_X12_markedSet : GoodIn wsX12_mark wsX12_markedSet := goodIn_r _ [30, 6, 16, 31, 32, 33, 4, 34, 15, 17, 18, 19, 20, 35, 36, 37, 38, 39, 40, 41, 42, 43, 44, 45, 46, 47, 48, 49, 50, 51, 52, 53, 54, 55, 56, 57, 58] rfl (by decide +kernel)
set_option maxRecDepth 20000 in
theorem gX12_mark_X12_markedSet : GoodIn wsX12_mark (wsV RX12 126 RX12 yX12_markedSet wsX12_markedSet) := goodIn_app (goodIn_of _ (by decide +kernel)) ggX12_mark_X12_markedSet
set_option maxRecDepth 20000 in
theorem ggX12_mark_X12_reckons : GoodIn wsX12_mark wsX12_reckons := goodIn_r _ [13, 14, 15, 6, 16, 17, 18, 19, 4, 20, 21, 22, 23, 24, 25, 26, 35, 36, 37, 38, 39, 40, 41, 42, 43, 44, 45, 46, 47, 48, 49, 50, 51, 52, 53, 54, 55, 56, 57, 58] rfl (by decide +kernel)
set_option maxRecDepth 20000 in
theorem gX12_mark_X12_reckons : GoodIn wsX12_mark (wsV RX12 107 RX12 yX12_reckons wsX12_reckons) := goodIn_app (goodIn_of _ (by decide +kernel)) ggX12_mark_X12_reckons
theorem dX12_mark_11 : decode cX12_mark 11 = .ok (.aload_n 0, 1) := by decide +kernel
theorem dX12_mark_12 : decode cX12_mark 12 = .ok (.invokevirtual 107, 3) := by decide +kernel
theorem dX12_mark_15 : decode cX12_mark 15 = .ok (.aload_n 0, 1) := by decide +kernel
theorem dX12_mark_16 : decode cX12_mark 16 = .ok (.iconst 0, 1) := by decide +kernel
theorem dX12_mark_17 : decode cX12_mark 17 = .ok (.invokevirtual 126, 3) := by decide +kernel
theorem dX12_mark_20 : decode cX12_mark 20 = .ok (.iload_n 1, 1) := by decide +kernel
theorem dX12_mark_21 : decode cX12_mark 21 = .ok (.invokestatic 59, 3) := by decide +kernel
theorem dX12_mark_24 : decode cX12_mark 24 = .ok (.ifCond .eq 7, 3) := by decide +kernel
theorem dX12_mark_27 : decode cX12_mark 27 = .ok (.iconst 0, 1) := by decide +kernel
theorem dX12_mark_28 : decode cX12_mark 28 = .ok (.goto 20, 3) := by decide +kernel
theorem dX12_mark_31 : decode cX12_mark 31 = .ok (.aload_n 0, 1) := by decide +kernel
theorem dX12_mark_32 : decode cX12_mark 32 = .ok (.iconst 1, 1) := by decide +kernel
theorem dX12_mark_33 : decode cX12_mark 33 = .ok (.invokevirtual 126, 3) := by decide +kernel
theorem dX12_mark_36 : decode cX12_mark 36 = .ok (.iload_n 1, 1) := by decide +kernel
theorem dX12_mark_37 : decode cX12_mark 37 = .ok (.invokestatic 59, 3) := by decide +kernel
theorem dX12_mark_40 : decode cX12_mark 40 = .ok (.ifCond .eq 7, 3) := by decide +kernel
theorem dX12_mark_43 : decode cX12_mark 43 = .ok (.iconst 1, 1) := by decide +kernel
theorem dX12_mark_44 : decode cX12_mark 44 = .ok (.goto 4, 3) := by decide +kernel
theorem dX12_mark_47 : decode cX12_mark 47 = .ok (.iconst 2, 1) := by decide +kernel
theorem dX12_mark_48 : decode cX12_mark 48 = .ok (.ireturn, 1) := by decide +kernel
set_option maxHeartbeats 4000000 in
set_option maxRecDepth 100000 in
theorem w_X12_mark (l : Launch) (D : va_G) (cI cS : ClassId) (sz : Nat) (b : Nat → Nat) (L v0 : SU) (hL : TyL L) (hV : TyV v0) (x0 : Int32) : Met l yX12_mark wsX12_mark ({ frames := 3, cells := 0, slots := 0, locals := 120 }) (PQ D cI cS (wM cI b L v0) sz [.ref (b 0), .int x0]) (QF (S := SU) D (wM cI b L v0) (wM cI b L) sz (fun r u => TyV u ∧ Rg (-2) 2 r ∧ (r = 0 → Rg 0 11 x0))) 0 0 (va_A (wM cI b L v0) sz) := by
  refine Met.ofW (cc := cX12_mark) (maxL := 2) (ret := (some .int)) (by decide) rfl ?_
  intro p e s m args below meth c s₁ B hml hv
  obtain ⟨rfl, hsz, hP, hKK, hD0⟩ := hv
  have hx := B.exec
  have hb := B.bytes
  have hr := B.returns
  have hts := atoms_spec (ws := wsX12_mark) B.pre
  have hown : s.vm.findClass RX12 = some m.cls := findClass_of_methodNamed B.named
  have hlocks := B.notSynchronized
  have hK := hKK.1
  subst hsz
  have hD := hD0.self (sz := s.heap.size)
  obtain ⟨A, hAe⟩ : ∃ A, A = va_A (wM cI b L v0) s.heap.size := ⟨_, rfl⟩
  rw [← hAe] at hD
  have hA : ∀ q : Nat, s.heap.size ≤ q → A q := fun q h => by rw [hAe]; exact Or.inr h
  have hS : va_S A s.heap s.heap [] := va_S.rf
  have hl := lv_entry ([.ref (b 0), .int x0]) (n := 2) (Nat.le_of_ble_eq_true rfl)
  rw [lg_entry_eq]
  generalize (lg_sl ([.ref (b 0), .int x0]) ++ List.replicate (2 - (lg_sl ([.ref (b 0), .int x0])).length) Slot.unset).toArray = ls at hl ⊢
  have hl : lv_has ls 2 [(0, .ref (b 0)), (1, .int x0)] := hl
  obtain ⟨v, hv9⟩ : ∃ v : SU, v = v0 := ⟨_, rfl⟩
  rw [← hv9] at hP hD hV
  refine lv_aload_n hx hb dX12_mark_0 rfl (lv_at hl 0 rfl) ?_
  refine lv_iload_n hx hb dX12_mark_1 rfl (lv_at hl 1 rfl) ?_
  refine wk_sv 0 (As := [.int x0]) (rest := []) ⟨hx, hb, hml, hown, hts⟩ (w_X12_isPoint l D cI cS b L v hL hV x0) hKK hP (ci := 12) rfl rfl (cwV 1 hts gX12_mark_X12_isPoint rfl rfl rfl (by decide +kernel) ⟨Nat.le_of_ble_eq_true rfl, Nat.le_of_ble_eq_true rfl⟩) rfl hl.1 rfl (Nat.le_of_ble_eq_true rfl) dX12_mark_2 ⟨Nat.le_of_ble_eq_true rfl, Nat.le_of_ble_eq_true rfl⟩ (fun r4732 hr4732 => ?_)
  refine lv_if_ne (tgt := 11) hx hb dX12_mark_5 (by decide) (fun c4733 => ?_) (fun c4733 => ?_)
  · have g4734 : Rg 0 11 x0 := (hr4732.2.1 c4733)
    have g4735 : Rg 1 1 r4732 := rg_ne_lo (k := 0) hr4732.1 (by decide) c4733 (by decide)
    refine lv_aload_n hx hb dX12_mark_11 rfl (lv_at hl 0 rfl) ?_
    refine wk_qv (wM cI b L) v (As := []) (rest := []) ⟨hx, hb, hml, hown, hts⟩ (w_X12_reckons l D cI cS _ b L v hL hV) hKK hP hD hS hA 0 (ci := 12) rfl rfl (cwV 0 hts gX12_mark_X12_reckons rfl rfl rfl (by decide +kernel) ⟨Nat.le_of_ble_eq_true rfl, Nat.le_of_ble_eq_true rfl⟩) rfl hl.1 rfl (Nat.le_of_ble_eq_true rfl) dX12_mark_12 ⟨Nat.le_of_ble_eq_true rfl, Nat.le_of_ble_eq_true rfl⟩ (fun v H locs hr4736 hP hD hS => ?_)
    have hV := hr4736.1
    refine lv_aload_n hx hb dX12_mark_15 rfl (lv_at hl 0 rfl) ?_
    refine lv_iconst (v := 0) hx hb dX12_mark_16 (by decide) ?_
    refine wk_sv 0 (As := [.int 0]) (rest := []) ⟨hx, hb, hml, hown, hts⟩ (w_X12_markedSet l D cI cS b L v hL hV (0 : Int32)) hKK hP (ci := 12) rfl rfl (cwV 1 hts gX12_mark_X12_markedSet rfl rfl rfl (by decide +kernel) ⟨Nat.le_of_ble_eq_true rfl, Nat.le_of_ble_eq_true rfl⟩) rfl hl.1 rfl (Nat.le_of_ble_eq_true rfl) dX12_mark_17 ⟨Nat.le_of_ble_eq_true rfl, Nat.le_of_ble_eq_true rfl⟩ (fun r4737 hr4737 => ?_)
    refine lv_iload_n hx hb dX12_mark_20 rfl (lv_at hl 1 rfl) ?_
    refine lz_ss (As := [.int r4737, .int x0]) (rest := []) ⟨hx, hb, hml, hown, hts⟩ (w_X12_has l D cI cS r4737 x0) hKK (hP.sub (ws' := []) [] rfl) (va_cwS 2 hts gX12_mark_X12_has rfl rfl rfl (by decide +kernel) ⟨Nat.le_of_ble_eq_true rfl, Nat.le_of_ble_eq_true rfl⟩) rfl hl.1 rfl (Nat.le_of_ble_eq_true rfl) dX12_mark_21 ⟨Nat.le_of_ble_eq_true rfl, Nat.le_of_ble_eq_true rfl⟩ (fun r4738 hr4738 => ?_)
    refine lv_if_eq (tgt := 31) hx hb dX12_mark_24 (by decide) (fun c4739 => ?_) (fun c4739 => ?_)
    · have g4740 : Rg 0 0 r4738 := wk_eql hr4738.1 (by decide : Rg 0 0 (0 : Int32)) c4739 (by decide)
      refine lv_aload_n hx hb dX12_mark_31 rfl (lv_at hl 0 rfl) ?_
      refine lv_iconst (v := 1) hx hb dX12_mark_32 (by decide) ?_
      refine wk_sv 0 (As := [.int 1]) (rest := []) ⟨hx, hb, hml, hown, hts⟩ (w_X12_markedSet l D cI cS b L v hL hV (1 : Int32)) hKK hP (ci := 12) rfl rfl (cwV 1 hts gX12_mark_X12_markedSet rfl rfl rfl (by decide +kernel) ⟨Nat.le_of_ble_eq_true rfl, Nat.le_of_ble_eq_true rfl⟩) rfl hl.1 rfl (Nat.le_of_ble_eq_true rfl) dX12_mark_33 ⟨Nat.le_of_ble_eq_true rfl, Nat.le_of_ble_eq_true rfl⟩ (fun r4741 hr4741 => ?_)
      refine lv_iload_n hx hb dX12_mark_36 rfl (lv_at hl 1 rfl) ?_
      refine lz_ss (As := [.int r4741, .int x0]) (rest := []) ⟨hx, hb, hml, hown, hts⟩ (w_X12_has l D cI cS r4741 x0) hKK (hP.sub (ws' := []) [] rfl) (va_cwS 2 hts gX12_mark_X12_has rfl rfl rfl (by decide +kernel) ⟨Nat.le_of_ble_eq_true rfl, Nat.le_of_ble_eq_true rfl⟩) rfl hl.1 rfl (Nat.le_of_ble_eq_true rfl) dX12_mark_37 ⟨Nat.le_of_ble_eq_true rfl, Nat.le_of_ble_eq_true rfl⟩ (fun r4742 hr4742 => ?_)
      refine lv_if_eq (tgt := 47) hx hb dX12_mark_40 (by decide) (fun c4743 => ?_) (fun c4743 => ?_)
      · have g4744 : Rg 0 0 r4742 := wk_eql hr4742.1 (by decide : Rg 0 0 (0 : Int32)) c4743 (by decide)
        refine lv_iconst (v := 2) hx hb dX12_mark_47 (by decide) ?_
        subst hAe
        exact W.iret (v := 2) hx hb hr (fun t ht hW => ⟨⟨_, v, rfl, ⟨hV, (by decide : Rg (-2) 2 (2 : Int32)), fun h9 => absurd h9 (by decide)⟩, by rw [ht]; exact hP, hD⟩, hS.F ht⟩) hS.2.2 dX12_mark_48
      · have g4745 : Rg 1 1 r4742 := rg_ne_lo (k := 0) hr4742.1 (by decide) c4743 (by decide)
        refine lv_iconst (v := 1) hx hb dX12_mark_43 (by decide) ?_
        refine lv_goto (tgt := 48) hx hb dX12_mark_44 (by decide) ?_
        subst hAe
        exact W.iret (v := 1) hx hb hr (fun t ht hW => ⟨⟨_, v, rfl, ⟨hV, (by decide : Rg (-2) 2 (1 : Int32)), fun h9 => absurd h9 (by decide)⟩, by rw [ht]; exact hP, hD⟩, hS.F ht⟩) hS.2.2 dX12_mark_48
    · have g4746 : Rg 1 1 r4738 := rg_ne_lo (k := 0) hr4738.1 (by decide) c4739 (by decide)
      refine lv_iconst (v := 0) hx hb dX12_mark_27 (by decide) ?_
      refine lv_goto (tgt := 48) hx hb dX12_mark_28 (by decide) ?_
      subst hAe
      exact W.iret (v := 0) hx hb hr (fun t ht hW => ⟨⟨_, v, rfl, ⟨hV, (by decide : Rg (-2) 2 (0 : Int32)), fun _ => g4734⟩, by rw [ht]; exact hP, hD⟩, hS.F ht⟩) hS.2.2 dX12_mark_48
  · have zt4747 : (x0.toInt < 0 ∨ (L 0 0).toInt - 1 < x0.toInt) := hr4732.2.2 c4733
    have g4748 : Rg 0 0 r4732 := wk_eql hr4732.1 (by decide : Rg 0 0 (0 : Int32)) c4733 (by decide)
    refine lv_bipush (v := (-2)) hx hb dX12_mark_8 (by decide) ?_
    subst hAe
    exact W.iret (v := (-2)) hx hb hr (fun t ht hW => ⟨⟨_, v, rfl, ⟨hV, (by decide : Rg (-2) 2 ((-2) : Int32)), fun h9 => absurd h9 (by decide)⟩, by rw [ht]; exact hP, hD⟩, hS.F ht⟩) hS.2.2 dX12_mark_10
set_option maxHeartbeats 4000000 in
set_option maxRecDepth 100000 in
theorem w_X12_marked (l : Launch) (D : va_G) (cI cS : ClassId) (sz : Nat) (b : Nat → Nat) (L v0 : SU) (hL : TyL L) (hV : TyV v0) (x0 : Int32) : Met l yX12_marked wsX12_marked ({ frames := 3, cells := 0, slots := 0, locals := 120 }) (PQ D cI cS (wM cI b L v0) sz [.ref (b 0), .int x0]) (QF (S := SU) D (wM cI b L v0) (wM cI b L) sz (fun r u => TyV u ∧ Rg (-2) 4095 r ∧ True)) 0 0 (va_A (wM cI b L v0) sz) := by
  refine Met.ofW (cc := cX12_marked) (maxL := 2) (ret := (some .int)) (by decide) rfl ?_
  intro p e s m args below meth c s₁ B hml hv
  obtain ⟨rfl, hsz, hP, hKK, hD0⟩ := hv
  have hx := B.exec
  have hb := B.bytes
  have hr := B.returns
  have hts := atoms_spec (ws := wsX12_marked) B.pre
  have hown : s.vm.findClass RX12 = some m.cls := findClass_of_methodNamed B.named
  have hlocks := B.notSynchronized
  have hK := hKK.1
  subst hsz
  have hD := hD0.self (sz := s.heap.size)
  obtain ⟨A, hAe⟩ : ∃ A, A = va_A (wM cI b L v0) s.heap.size := ⟨_, rfl⟩
  rw [← hAe] at hD
  have hA : ∀ q : Nat, s.heap.size ≤ q → A q := fun q h => by rw [hAe]; exact Or.inr h
  have hS : va_S A s.heap s.heap [] := va_S.rf
  have hl := lv_entry ([.ref (b 0), .int x0]) (n := 2) (Nat.le_of_ble_eq_true rfl)
  rw [lg_entry_eq]
  generalize (lg_sl ([.ref (b 0), .int x0]) ++ List.replicate (2 - (lg_sl ([.ref (b 0), .int x0])).length) Slot.unset).toArray = ls at hl ⊢
  have hl : lv_has ls 2 [(0, .ref (b 0)), (1, .int x0)] := hl
  obtain ⟨v, hv9⟩ : ∃ v : SU, v = v0 := ⟨_, rfl⟩
  rw [← hv9] at hP hD hV
  refine lv_iload_n hx hb dX12_marked_0 rfl (lv_at hl 1 rfl) ?_
  refine lv_iconst (v := 0) hx hb dX12_marked_1 (by decide) ?_
  refine lv_iconst (v := 2) hx hb dX12_marked_2 (by decide) ?_
  refine lz_ss (As := [.int x0, .int 0, .int 2]) (rest := []) ⟨hx, hb, hml, hown, hts⟩ (w_X12_in l D cI cS x0 (0 : Int32) (2 : Int32)) hKK (hP.sub (ws' := []) [] rfl) (va_cwS 3 hts gX12_marked_X12_in rfl rfl rfl (by decide +kernel) ⟨Nat.le_of_ble_eq_true rfl, Nat.le_of_ble_eq_true rfl⟩) rfl hl.1 rfl (Nat.le_of_ble_eq_true rfl) dX12_marked_3 ⟨Nat.le_of_ble_eq_true rfl, Nat.le_of_ble_eq_true rfl⟩ (fun r4758 hr4758 => ?_)
  refine lv_if_ne (tgt := 12) hx hb dX12_marked_6 (by decide) (fun c4759 => ?_) (fun c4759 => ?_)
  · have zn4760 : (0 : Int32).toInt ≤ x0.toInt ∧ x0.toInt ≤ (2 : Int32).toInt := (hr4758.2.2 c4759)
    have g4761 : Rg 0 2 x0 := wk_in3 (rg_any x0) (by decide : Rg 0 0 (0 : Int32)) (by decide : Rg 2 2 (2 : Int32)) (hr4758.2.2 c4759) (by decide)
    have g4762 : Rg 1 1 r4758 := rg_ne_lo (k := 0) hr4758.1 (by decide) c4759 (by decide)
    refine lv_aload_n hx hb dX12_marked_12 rfl (lv_at hl 0 rfl) ?_
    refine wk_qv (wM cI b L) v (As := []) (rest := []) ⟨hx, hb, hml, hown, hts⟩ (w_X12_reckons l D cI cS _ b L v hL hV) hKK hP hD hS hA 0 (ci := 12) rfl rfl (cwV 0 hts gX12_marked_X12_reckons rfl rfl rfl (by decide +kernel) ⟨Nat.le_of_ble_eq_true rfl, Nat.le_of_ble_eq_true rfl⟩) rfl hl.1 rfl (Nat.le_of_ble_eq_true rfl) dX12_marked_13 ⟨Nat.le_of_ble_eq_true rfl, Nat.le_of_ble_eq_true rfl⟩ (fun v H locs hr4763 hP hD hS => ?_)
    have hV := hr4763.1
    refine lv_aload_n hx hb dX12_marked_16 rfl (lv_at hl 0 rfl) ?_
    refine lv_iload_n hx hb dX12_marked_17 rfl (lv_at hl 1 rfl) ?_
    refine wk_sv 0 (As := [.int x0]) (rest := []) ⟨hx, hb, hml, hown, hts⟩ (w_X12_markedSet l D cI cS b L v hL hV x0) hKK hP (ci := 12) rfl rfl (cwV 1 hts gX12_marked_X12_markedSet rfl rfl rfl (by decide +kernel) ⟨Nat.le_of_ble_eq_true rfl, Nat.le_of_ble_eq_true rfl⟩) rfl hl.1 rfl (Nat.le_of_ble_eq_true rfl) dX12_marked_18 ⟨Nat.le_of_ble_eq_true rfl, Nat.le_of_ble_eq_true rfl⟩ (fun r4764 hr4764 => ?_)
    subst hAe
    exact W.iret (v := r4764) hx hb hr (fun t ht hW => ⟨⟨_, v, rfl, ⟨hV, (show Rg (-2) 4095 r4764 from rg_w hr4764.1 (by decide) (by decide)), trivial⟩, by rw [ht]; exact hP, hD⟩, hS.F ht⟩) hS.2.2 dX12_marked_21
  · have zt4765 : (x0.toInt < (0 : Int32).toInt ∨ (2 : Int32).toInt < x0.toInt) := hr4758.2.1 c4759
    have g4766 : Rg 0 0 r4758 := wk_eql hr4758.1 (by decide : Rg 0 0 (0 : Int32)) c4759 (by decide)
    refine lv_bipush (v := (-2)) hx hb dX12_marked_9 (by decide) ?_
    subst hAe
    exact W.iret (v := (-2)) hx hb hr (fun t ht hW => ⟨⟨_, v, rfl, ⟨hV, (by decide : Rg (-2) 4095 ((-2) : Int32)), trivial⟩, by rw [ht]; exact hP, hD⟩, hS.F ht⟩) hS.2.2 dX12_marked_11
set_option maxRecDepth 20000 in
theorem ggX12_pieceOf_X12_has : GoodIn wsX12_pieceOf wsX12_has := goodIn_r _ [6] rfl (by decide +kernel)
set_option maxRecDepth 20000 in
theorem gX12_pieceOf_X12_has : GoodIn wsX12_pieceOf (va_wsS RX12 59 yX12_has wsX12_has) := goodIn_app (goodIn_of _ (by decide +kernel)) ggX12_pieceOf_X12_has
theorem dX12_pieceOf_0 : decode cX12_pieceOf 0 = .ok (.iload_n 1, 1) := by decide +kernel
theorem dX12_pieceOf_1 : decode cX12_pieceOf 1 = .ok (.iload_n 1, 1) := by decide +kernel
theorem dX12_pieceOf_12 : decode cX12_pieceOf 12 = .ok (.iload_n 2, 1) := by decide +kernel
theorem dX12_pieceOf_13 : decode cX12_pieceOf 13 = .ok (.istore_n 3, 1) := by decide +kernel
theorem dX12_pieceOf_14 : decode cX12_pieceOf 14 = .ok (.iconst 0, 1) := by decide +kernel
theorem dX12_pieceOf_15 : decode cX12_pieceOf 15 = .ok (.istore 4, 2) := by decide +kernel
theorem dX12_pieceOf_17 : decode cX12_pieceOf 17 = .ok (.iload 4, 2) := by decide +kernel
theorem dX12_pieceOf_19 : decode cX12_pieceOf 19 = .ok (.aload_n 0, 1) := by decide +kernel
theorem dX12_pieceOf_2 : decode cX12_pieceOf 2 = .ok (.ineg, 1) := by decide +kernel
theorem dX12_pieceOf_20 : decode cX12_pieceOf 20 = .ok (.getfield 63, 3) := by decide +kernel
theorem dX12_pieceOf_23 : decode cX12_pieceOf 23 = .ok (.if_icmp .ge 34, 3) := by decide +kernel
theorem dX12_pieceOf_26 : decode cX12_pieceOf 26 = .ok (.iload_n 2, 1) := by decide +kernel
theorem dX12_pieceOf_27 : decode cX12_pieceOf 27 = .ok (.iload_n 2, 1) := by decide +kernel
theorem dX12_pieceOf_28 : decode cX12_pieceOf 28 = .ok (.iload 4, 2) := by decide +kernel
theorem dX12_pieceOf_3 : decode cX12_pieceOf 3 = .ok (.iand, 1) := by decide +kernel
theorem dX12_pieceOf_30 : decode cX12_pieceOf 30 = .ok (.invokestatic 59, 3) := by decide +kernel
theorem dX12_pieceOf_33 : decode cX12_pieceOf 33 = .ok (.ifCond .eq 15, 3) := by decide +kernel
theorem dX12_pieceOf_36 : decode cX12_pieceOf 36 = .ok (.aload_n 0, 1) := by decide +kernel
theorem dX12_pieceOf_37 : decode cX12_pieceOf 37 = .ok (.getfield 13, 3) := by decide +kernel
theorem dX12_pieceOf_4 : decode cX12_pieceOf 4 = .ok (.istore_n 2, 1) := by decide +kernel
theorem dX12_pieceOf_40 : decode cX12_pieceOf 40 = .ok (.iload 4, 2) := by decide +kernel
theorem dX12_pieceOf_42 : decode cX12_pieceOf 42 = .ok (.iaload, 1) := by decide +kernel
theorem dX12_pieceOf_43 : decode cX12_pieceOf 43 = .ok (.iload_n 1, 1) := by decide +kernel
theorem dX12_pieceOf_44 : decode cX12_pieceOf 44 = .ok (.iand, 1) := by decide +kernel
theorem dX12_pieceOf_45 : decode cX12_pieceOf 45 = .ok (.goto 4, 3) := by decide +kernel
theorem dX12_pieceOf_48 : decode cX12_pieceOf 48 = .ok (.iconst 0, 1) := by decide +kernel
theorem dX12_pieceOf_49 : decode cX12_pieceOf 49 = .ok (.ior, 1) := by decide +kernel
theorem dX12_pieceOf_5 : decode cX12_pieceOf 5 = .ok (.iconst 0, 1) := by decide +kernel
theorem dX12_pieceOf_50 : decode cX12_pieceOf 50 = .ok (.istore_n 2, 1) := by decide +kernel
theorem dX12_pieceOf_51 : decode cX12_pieceOf 51 = .ok (.iinc 4 1, 3) := by decide +kernel
theorem dX12_pieceOf_54 : decode cX12_pieceOf 54 = .ok (.goto (-37), 3) := by decide +kernel
theorem dX12_pieceOf_57 : decode cX12_pieceOf 57 = .ok (.goto (-50), 3) := by decide +kernel
theorem dX12_pieceOf_6 : decode cX12_pieceOf 6 = .ok (.istore_n 3, 1) := by decide +kernel
theorem dX12_pieceOf_60 : decode cX12_pieceOf 60 = .ok (.iload_n 2, 1) := by decide +kernel
theorem dX12_pieceOf_61 : decode cX12_pieceOf 61 = .ok (.ireturn, 1) := by decide +kernel
theorem dX12_pieceOf_7 : decode cX12_pieceOf 7 = .ok (.iload_n 2, 1) := by decide +kernel
theorem dX12_pieceOf_8 : decode cX12_pieceOf 8 = .ok (.iload_n 3, 1) := by decide +kernel
theorem dX12_pieceOf_9 : decode cX12_pieceOf 9 = .ok (.if_icmp .eq 51, 3) := by decide +kernel
set_option maxHeartbeats 4000000 in
set_option maxRecDepth 100000 in
theorem w_X12_pieceOf (l : Launch) (D : va_G) (cI cS : ClassId) (b : Nat → Nat) (L v : SU) (hL : TyL L) (hV : TyV v) (x0 : Int32) (px0 : Rg 1 4095 x0) : Met l yX12_pieceOf wsX12_pieceOf ({ frames := 1, cells := 0, slots := 0, locals := 40 }) (PS D cI cS (wM cI b L v) [.ref (b 0), .int x0]) (vp_Si (fun r => Rg 0 4095 r ∧ (x0 &&& -x0) &&& r = x0 &&& -x0)) 0 0 (fun _ => False) := by
  refine Met.ofW (cc := cX12_pieceOf) (maxL := 5) (ret := (some .int)) (by decide) rfl ?_
  intro p e s m args below meth c s₁ B hml hv
  obtain ⟨rfl, hP, hKK⟩ := hv
  have hx := B.exec
  have hb := B.bytes
  have hr := B.returns
  have hts := atoms_spec (ws := wsX12_pieceOf) B.pre
  have hown : s.vm.findClass RX12 = some m.cls := findClass_of_methodNamed B.named
  have hlocks := B.notSynchronized
  have hK := hKK.1
  have hin12 : ∀ w ∈ wsX120, w ∈ wsX12_pieceOf := by decide +kernel
  have hl := lv_entry ([.ref (b 0), .int x0]) (n := 5) (Nat.le_of_ble_eq_true rfl)
  rw [lg_entry_eq]
  generalize (lg_sl ([.ref (b 0), .int x0]) ++ List.replicate (5 - (lg_sl ([.ref (b 0), .int x0])).length) Slot.unset).toArray = ls at hl ⊢
  have hl : lv_has ls 5 [(0, .ref (b 0)), (1, .int x0)] := hl
  have lp7 : ∀ (n7 : Nat) (y7_l2 : Int32) (y7_l3 : Int32) (ls : Array Slot), Rg 1 4095 x0 → Rg 0 4095 y7_l2 → Rg 0 4095 y7_l3 → (x0 &&& -x0) &&& y7_l2 = x0 &&& -x0 → y7_l3.toInt ≤ y7_l2.toInt → lv_has ls 5 [(0, .ref (b 0)), (1, .int x0), (2, .int y7_l2), (3, .int y7_l3)] → 4095 - y7_l3.toInt < (n7 : Int) → W p l e (headSpec wsX12_pieceOf ({ frames := 1, cells := 0, slots := 0, locals := 40 })).room s m ([.ref (b 0), .int x0]).toArray below meth c s.heap [] 0 0 (MQ below (vp_Si (fun r => Rg 0 4095 r ∧ (x0 &&& -x0) &&& r = x0 &&& -x0)) ([.ref (b 0), .int x0]).toArray s 0 0 (fun _ => False)) (F0 m 7 ls []) := by
    intro n7
    induction n7 with
    | zero =>
      intro y7_l2 y7_l3 ls g7_l1 g7_l2 g7_l3 x7_0 x7_1 hl hm7
      exact absurd rfl (me_z g7_l3 hm7)
    | succ n7 ih7 =>
      intro y7_l2 y7_l3 ls g7_l1 g7_l2 g7_l3 x7_0 x7_1 hl hm7
      have lp17 : ∀ (n17 : Nat) (y17_l2 : Int32) (y17_l4 : Int32) (ls : Array Slot), Rg 1 4095 x0 → Rg 0 4095 y17_l2 → Rg 0 4095 y7_l2 → Rg 0 12 y17_l4 → (x0 &&& -x0) &&& y17_l2 = x0 &&& -x0 → y7_l2.toInt ≤ y17_l2.toInt → y7_l3.toInt < y7_l2.toInt → lv_has ls 5 [(0, .ref (b 0)), (1, .int x0), (2, .int y17_l2), (3, .int y7_l2), (4, .int y17_l4)] → 12 - y17_l4.toInt < (n17 : Int) → W p l e (headSpec wsX12_pieceOf ({ frames := 1, cells := 0, slots := 0, locals := 40 })).room s m ([.ref (b 0), .int x0]).toArray below meth c s.heap [] 0 0 (MQ below (vp_Si (fun r => Rg 0 4095 r ∧ (x0 &&& -x0) &&& r = x0 &&& -x0)) ([.ref (b 0), .int x0]).toArray s 0 0 (fun _ => False)) (F0 m 17 ls []) := by
        intro n17
        induction n17 with
        | zero =>
          intro y17_l2 y17_l4 ls g17_l1 g17_l2 g17_l3 g17_l4 x17_0 x17_1 x17_2 hl hm17
          exact absurd rfl (me_z g17_l4 hm17)
        | succ n17 ih17 =>
          intro y17_l2 y17_l4 ls g17_l1 g17_l2 g17_l3 g17_l4 x17_0 x17_1 x17_2 hl hm17
          refine lv_iload hx hb dX12_pieceOf_17 (lv_at hl 4 rfl) ?_
          refine lv_aload_n hx hb dX12_pieceOf_19 rfl (lv_at hl 0 rfl) ?_
          refine va_get (D := D) (ci := 12) (v := .int (L 0 0)) (C := RX12) (T := TX12) (N := 24) hx hb hts hin12 hown hK hP 0 rfl rfl 0 (by decide) (hts (.fieldLink RX12 63 "MissedPointsModel" "many" "I") (by decide +kernel)) (fun _ h9 => h9) rfl dX12_pieceOf_20 ?_
          refine lv_icmp_ge (tgt := 57) hx hb dX12_pieceOf_23 (by decide) (fun c4932 => ?_) (fun c4932 => ?_)
          · refine lv_goto (tgt := 7) hx hb dX12_pieceOf_57 (by decide) ?_
            exact ih7 y17_l2 y7_l2 ls g17_l1 g17_l2 g17_l3 (by exact x17_0) (by exact x17_1) (lv_sub (l' := [(0, .ref (b 0)), (1, .int x0), (2, .int y17_l2), (3, .int y7_l2)]) hl [0, 1, 2, 3] rfl) (by omega)
          · have g4933 : Rg 1 12 (L 0 0) := rg_ltr g17_l4 hL.1 (rg_nle c4932) (by decide)
            have g4934 : Rg 0 11 y17_l4 := rg_ltl g17_l4 hL.1 (rg_nle c4932) (by decide)
            refine lv_iload_n hx hb dX12_pieceOf_26 rfl (lv_at hl 2 rfl) ?_
            refine lv_iload_n hx hb dX12_pieceOf_27 rfl (lv_at hl 2 rfl) ?_
            refine lv_iload hx hb dX12_pieceOf_28 (lv_at hl 4 rfl) ?_
            refine lz_ss (As := [.int y17_l2, .int y17_l4]) (rest := [.int y17_l2]) ⟨hx, hb, hml, hown, hts⟩ (w_X12_has l D cI cS y17_l2 y17_l4) hKK (hP.sub (ws' := []) [] rfl) (va_cwS 2 hts gX12_pieceOf_X12_has rfl rfl rfl (by decide +kernel) ⟨Nat.le_of_ble_eq_true rfl, Nat.le_of_ble_eq_true rfl⟩) rfl hl.1 rfl (Nat.le_of_ble_eq_true rfl) dX12_pieceOf_30 ⟨Nat.le_of_ble_eq_true rfl, Nat.le_of_ble_eq_true rfl⟩ (fun r4935 hr4935 => ?_)
            refine lv_if_eq (tgt := 48) hx hb dX12_pieceOf_33 (by decide) (fun c4936 => ?_) (fun c4936 => ?_)
            · have g4937 : Rg 0 0 r4935 := wk_eql hr4935.1 (by decide : Rg 0 0 (0 : Int32)) c4936 (by decide)
              refine lv_iconst (v := 0) hx hb dX12_pieceOf_48 (by decide) ?_
              refine wk_ior 12 (e1 := 0) (f := 4095) hx hb dX12_pieceOf_49 g17_l2 (by decide : Rg 0 0 (0 : Int32)) (by decide) (fun r4938 hr4938 qr4938 => ?_)
              refine lv_istore_n (lv' := [(2, .int r4938), (0, .ref (b 0)), (1, .int x0), (3, .int y7_l2), (4, .int y17_l4)]) hx hb dX12_pieceOf_50 rfl hl (by decide) rfl (fun ls hl => ?_)
              refine wk_iinc (lv' := fun r => [(4, .int r), (2, .int r4938), (0, .ref (b 0)), (1, .int x0), (3, .int y7_l2)]) (e1 := 1) (f := 12) hx hb dX12_pieceOf_51 hl (k := 4) rfl (by decide) g4934 (by decide) (fun _ => rfl) (fun r4939 ls hr4939 er4939 hl => ?_)
              refine lv_goto (tgt := 17) hx hb dX12_pieceOf_54 (by decide) ?_
              exact ih17 r4938 r4939 ls g17_l1 hr4938 g17_l3 (show Rg 0 12 r4939 from rg_w hr4939 (by decide) (by decide)) (by rw [qr4938]; exact lb_or x17_0) (by exact Int.le_trans x17_1 (by rw [qr4938]; exact rg_orl g17_l2 (by decide : Rg 0 0 (0 : Int32)) (by decide) (by decide))) (by exact x17_2) (lv_sub (l' := [(0, .ref (b 0)), (1, .int x0), (2, .int r4938), (3, .int y7_l2), (4, .int r4939)]) hl [2, 3, 1, 4, 0] rfl) (me_up hm17 er4939 (by decide))
            · have g4940 : Rg 1 1 r4935 := rg_ne_lo (k := 0) hr4935.1 (by decide) c4936 (by decide)
              refine lv_aload_n hx hb dX12_pieceOf_36 rfl (lv_at hl 0 rfl) ?_
              refine va_get (D := D) (ci := 12) (v := .ref (b 1)) (C := RX12) (T := TX12) (N := 24) hx hb hts hin12 hown hK hP 0 rfl rfl 2 (by decide) (hts (.fieldLink RX12 13 "MissedPointsModel" "near" "[I") (by decide +kernel)) (fun _ h9 => h9) rfl dX12_pieceOf_37 ?_
              refine lv_iload hx hb dX12_pieceOf_40 (lv_at hl 4 rfl) ?_
              refine wk_ald hx hb hK hP 1 0 rfl rfl (rg_in g4934 (by decide) (by decide)) dX12_pieceOf_42 hV.1 (fun r4941 hr4941 => ?_)
              refine lv_iload_n hx hb dX12_pieceOf_43 rfl (lv_at hl 1 rfl) ?_
              refine wk_iandl hx hb dX12_pieceOf_44 hr4941 (by decide) (fun r4942 hr4942 qr4942 => ?_)
              refine lv_goto (tgt := 49) hx hb dX12_pieceOf_45 (by decide) ?_
              refine wk_ior 12 (e1 := 0) (f := 4095) hx hb dX12_pieceOf_49 g17_l2 hr4942 (by decide) (fun r4943 hr4943 qr4943 => ?_)
              refine lv_istore_n (lv' := [(2, .int r4943), (0, .ref (b 0)), (1, .int x0), (3, .int y7_l2), (4, .int y17_l4)]) hx hb dX12_pieceOf_50 rfl hl (by decide) rfl (fun ls hl => ?_)
              refine wk_iinc (lv' := fun r => [(4, .int r), (2, .int r4943), (0, .ref (b 0)), (1, .int x0), (3, .int y7_l2)]) (e1 := 1) (f := 12) hx hb dX12_pieceOf_51 hl (k := 4) rfl (by decide) g4934 (by decide) (fun _ => rfl) (fun r4944 ls hr4944 er4944 hl => ?_)
              refine lv_goto (tgt := 17) hx hb dX12_pieceOf_54 (by decide) ?_
              exact ih17 r4943 r4944 ls g17_l1 hr4943 g17_l3 (show Rg 0 12 r4944 from rg_w hr4944 (by decide) (by decide)) (by rw [qr4943]; exact lb_or x17_0) (by exact Int.le_trans x17_1 (by rw [qr4943]; exact rg_orl g17_l2 hr4942 (by decide) (by decide))) (by exact x17_2) (lv_sub (l' := [(0, .ref (b 0)), (1, .int x0), (2, .int r4943), (3, .int y7_l2), (4, .int r4944)]) hl [2, 3, 1, 4, 0] rfl) (me_up hm17 er4944 (by decide))
      refine lv_iload_n hx hb dX12_pieceOf_7 rfl (lv_at hl 2 rfl) ?_
      refine lv_iload_n hx hb dX12_pieceOf_8 rfl (lv_at hl 3 rfl) ?_
      refine lv_icmp_eq (tgt := 60) hx hb dX12_pieceOf_9 (by decide) (fun c4945 => ?_) (fun c4945 => ?_)
      · refine lv_iload_n hx hb dX12_pieceOf_60 rfl (lv_at hl 2 rfl) ?_
        exact W.iret (v := y7_l2) hx hb hr (fun t ht hW => ⟨_, rfl, ⟨g7_l2, x7_0⟩, ht⟩) (fun q hq => absurd hq List.not_mem_nil) dX12_pieceOf_61
      · refine lv_iload_n hx hb dX12_pieceOf_12 rfl (lv_at hl 2 rfl) ?_
        refine lv_istore_n (lv' := [(3, .int y7_l2), (0, .ref (b 0)), (1, .int x0), (2, .int y7_l2)]) hx hb dX12_pieceOf_13 rfl hl (by decide) rfl (fun ls hl => ?_)
        refine lv_iconst (v := 0) hx hb dX12_pieceOf_14 (by decide) ?_
        refine lv_istore (lv' := [(4, .int 0), (3, .int y7_l2), (0, .ref (b 0)), (1, .int x0), (2, .int y7_l2)]) hx hb dX12_pieceOf_15 hl (by decide) rfl (fun ls hl => ?_)
        exact lp17 13 y7_l2 (0 : Int32) ls g7_l1 g7_l2 g7_l2 (by decide : Rg 0 12 (0 : Int32)) (by exact x7_0) (by exact Int.le_refl _) (by have z8 := x7_1; have z9 : ¬ y7_l2.toInt = y7_l3.toInt := fun z => c4945 (Int32.toInt_inj.mp z); omega) (lv_sub (l' := [(0, .ref (b 0)), (1, .int x0), (2, .int y7_l2), (3, .int y7_l2), (4, .int 0)]) hl [2, 3, 4, 1, 0] rfl) (me_i (by decide : Rg 0 12 (0 : Int32)) (by decide))
  refine lv_iload_n hx hb dX12_pieceOf_0 rfl (lv_at hl 1 rfl) ?_
  refine lv_iload_n hx hb dX12_pieceOf_1 rfl (lv_at hl 1 rfl) ?_
  refine lv_ineg hx hb dX12_pieceOf_2 ?_
  refine wk_topP (P := fun r => r = -x0) rfl (fun r4946 qr4946 => ?_)
  refine wk_iandl hx hb dX12_pieceOf_3 px0 (by decide) (fun r4947 hr4947 qr4947 => ?_)
  refine lv_istore_n (lv' := [(2, .int r4947), (0, .ref (b 0)), (1, .int x0)]) hx hb dX12_pieceOf_4 rfl hl (by decide) rfl (fun ls hl => ?_)
  refine lv_iconst (v := 0) hx hb dX12_pieceOf_5 (by decide) ?_
  refine lv_istore_n (lv' := [(3, .int 0), (2, .int r4947), (0, .ref (b 0)), (1, .int x0)]) hx hb dX12_pieceOf_6 rfl hl (by decide) rfl (fun ls hl => ?_)
  exact lp7 4096 r4947 (0 : Int32) ls px0 hr4947 (by decide : Rg 0 4095 (0 : Int32)) (by rw [qr4947, qr4946]; exact Int32.and_self) (by exact Int.le_trans (by decide) hr4947.1) (lv_sub (l' := [(0, .ref (b 0)), (1, .int x0), (2, .int r4947), (3, .int 0)]) hl [2, 3, 1, 0] rfl) (by decide)
set_option maxRecDepth 20000 in
theorem ggX12_piecesOf_X12_pieceOf : GoodIn wsX12_piecesOf wsX12_pieceOf := goodIn_r _ [5, 6, 7, 8, 9, 4, 10, 11, 12, 13, 14, 15, 16, 17, 18, 19, 20, 21, 22, 23, 24, 25, 26, 27, 28, 29, 30, 31, 32, 33, 34] rfl (by decide +kernel)
set_option maxRecDepth 20000 in
theorem gX12_piecesOf_X12_pieceOf : GoodIn wsX12_piecesOf (wsV RX12 129 RX12 yX12_pieceOf wsX12_pieceOf) := goodIn_app (goodIn_of _ (by decide +kernel)) ggX12_piecesOf_X12_pieceOf
theorem dX12_piecesOf_11 : decode cX12_piecesOf 11 = .ok (.iload_n 3, 1) := by decide +kernel
theorem dX12_piecesOf_12 : decode cX12_piecesOf 12 = .ok (.aload_n 0, 1) := by decide +kernel
theorem dX12_piecesOf_13 : decode cX12_piecesOf 13 = .ok (.iload_n 3, 1) := by decide +kernel
theorem dX12_piecesOf_14 : decode cX12_piecesOf 14 = .ok (.invokevirtual 129, 3) := by decide +kernel
theorem dX12_piecesOf_17 : decode cX12_piecesOf 17 = .ok (.iconst (-1), 1) := by decide +kernel
theorem dX12_piecesOf_18 : decode cX12_piecesOf 18 = .ok (.ixor, 1) := by decide +kernel
theorem dX12_piecesOf_19 : decode cX12_piecesOf 19 = .ok (.iand, 1) := by decide +kernel
theorem dX12_piecesOf_20 : decode cX12_piecesOf 20 = .ok (.istore_n 3, 1) := by decide +kernel
theorem dX12_piecesOf_21 : decode cX12_piecesOf 21 = .ok (.goto (-17), 3) := by decide +kernel
theorem dX12_piecesOf_8 : decode cX12_piecesOf 8 = .ok (.iinc 2 1, 3) := by decide +kernel
set_option maxHeartbeats 4000000 in
set_option maxRecDepth 100000 in
theorem w_X12_piecesOf (l : Launch) (D : va_G) (cI cS : ClassId) (b : Nat → Nat) (L v : SU) (hL : TyL L) (hV : TyV v) (x0 : Int32) (px0 : Rg 0 4095 x0) : Met l yX12_piecesOf wsX12_piecesOf ({ frames := 2, cells := 0, slots := 0, locals := 80 }) (PS D cI cS (wM cI b L v) [.ref (b 0), .int x0]) (vp_Si (fun r => Rg (-2147483648) 2147483647 r ∧ True)) 0 0 (fun _ => False) := by
  refine Met.ofW (cc := cX12_piecesOf) (maxL := 4) (ret := (some .int)) (by decide) rfl ?_
  intro p e s m args below meth c s₁ B hml hv
  obtain ⟨rfl, hP, hKK⟩ := hv
  have hx := B.exec
  have hb := B.bytes
  have hr := B.returns
  have hts := atoms_spec (ws := wsX12_piecesOf) B.pre
  have hown : s.vm.findClass RX12 = some m.cls := findClass_of_methodNamed B.named
  have hlocks := B.notSynchronized
  have hK := hKK.1
  have hl := lv_entry ([.ref (b 0), .int x0]) (n := 4) (Nat.le_of_ble_eq_true rfl)
  rw [lg_entry_eq]
  generalize (lg_sl ([.ref (b 0), .int x0]) ++ List.replicate (4 - (lg_sl ([.ref (b 0), .int x0])).length) Slot.unset).toArray = ls at hl ⊢
  have hl : lv_has ls 4 [(0, .ref (b 0)), (1, .int x0)] := hl
  have lp4 : ∀ (n4 : Nat) (y4_l2 : Int32) (y4_l3 : Int32) (ls : Array Slot), Rg 0 4095 y4_l3 → lv_has ls 4 [(0, .ref (b 0)), (2, .int y4_l2), (3, .int y4_l3)] → y4_l3.toInt < (n4 : Int) → W p l e (headSpec wsX12_piecesOf ({ frames := 2, cells := 0, slots := 0, locals := 80 })).room s m ([.ref (b 0), .int x0]).toArray below meth c s.heap [] 0 0 (MQ below (vp_Si (fun r => Rg (-2147483648) 2147483647 r ∧ True)) ([.ref (b 0), .int x0]).toArray s 0 0 (fun _ => False)) (F0 m 4 ls []) := by
    intro n4
    induction n4 with
    | zero =>
      intro y4_l2 y4_l3 ls g4_l3 hl hm4
      exact absurd rfl (me_0 g4_l3 (by decide) hm4)
    | succ n4 ih4 =>
      intro y4_l2 y4_l3 ls g4_l3 hl hm4
      refine lv_iload_n hx hb dX12_piecesOf_4 rfl (lv_at hl 2 rfl) ?_
      refine lv_if_eq (tgt := 24) hx hb dX12_piecesOf_5 (by decide) (fun c5151 => ?_) (fun c5151 => ?_)
      · have g5152 : Rg 0 0 y4_l3 := wk_eql g4_l3 (by decide : Rg 0 0 (0 : Int32)) c5151 (by decide)
        refine lv_iload_n hx hb dX12_piecesOf_24 rfl (lv_at hl 1 rfl) ?_
        exact W.iret (v := y4_l2) hx hb hr (fun t ht hW => ⟨_, rfl, ⟨(rg_any y4_l2), trivial⟩, ht⟩) (fun q hq => absurd hq List.not_mem_nil) dX12_piecesOf_25
      · have g5153 : Rg 1 4095 y4_l3 := rg_ne_lo (k := 0) g4_l3 (by decide) c5151 (by decide)
        refine wk_iincA (lv' := fun r => [(2, .int r), (0, .ref (b 0)), (3, .int y4_l3)]) hx hb dX12_piecesOf_8 hl (k := 1) rfl (by decide) (fun _ => rfl) (fun r5154 ls hl => ?_)
        refine lv_iload_n hx hb dX12_piecesOf_11 rfl (lv_at hl 2 rfl) ?_
        refine lv_aload_n hx hb dX12_piecesOf_12 rfl (lv_at hl 1 rfl) ?_
        refine lv_iload_n hx hb dX12_piecesOf_13 rfl (lv_at hl 2 rfl) ?_
        refine wk_sv 0 (As := [.int y4_l3]) (rest := [.int y4_l3]) ⟨hx, hb, hml, hown, hts⟩ (w_X12_pieceOf l D cI cS b L v hL hV y4_l3 g5153) hKK hP (ci := 12) rfl rfl (cwV 1 hts gX12_piecesOf_X12_pieceOf rfl rfl rfl (by decide +kernel) ⟨Nat.le_of_ble_eq_true rfl, Nat.le_of_ble_eq_true rfl⟩) rfl hl.1 rfl (Nat.le_of_ble_eq_true rfl) dX12_piecesOf_14 ⟨Nat.le_of_ble_eq_true rfl, Nat.le_of_ble_eq_true rfl⟩ (fun r5155 hr5155 => ?_)
        refine lv_iconst (v := (-1)) hx hb dX12_piecesOf_17 (by decide) ?_
        refine lv_ixor hx hb dX12_piecesOf_18 ?_
        refine wk_topP (P := fun r => r = r5155 ^^^ ((-1) : Int32)) rfl (fun r5156 qr5156 => ?_)
        refine wk_iandl hx hb dX12_piecesOf_19 g5153 (by decide) (fun r5157 hr5157 qr5157 => ?_)
        refine lv_istore_n (lv' := [(3, .int r5157), (2, .int r5154), (0, .ref (b 0))]) hx hb dX12_piecesOf_20 rfl hl (by decide) rfl (fun ls hl => ?_)
        refine lv_goto (tgt := 4) hx hb dX12_piecesOf_21 (by decide) ?_
        exact ih4 r5154 r5157 ls hr5157 (lv_sub (l' := [(0, .ref (b 0)), (2, .int r5154), (3, .int r5157)]) hl [2, 1, 0] rfl) (me_lt hm4 (by rw [qr5157, qr5156]; exact an_piece g5153 hr5155.2))
  refine lv_iconst (v := 0) hx hb dX12_piecesOf_0 (by decide) ?_
  refine lv_istore_n (lv' := [(2, .int 0), (0, .ref (b 0)), (1, .int x0)]) hx hb dX12_piecesOf_1 rfl hl (by decide) rfl (fun ls hl => ?_)
  refine lv_iload_n hx hb dX12_piecesOf_2 rfl (lv_at hl 2 rfl) ?_
  refine lv_istore_n (lv' := [(3, .int x0), (2, .int 0), (0, .ref (b 0)), (1, .int x0)]) hx hb dX12_piecesOf_3 rfl hl (by decide) rfl (fun ls hl => ?_)
  exact lp4 4096 (0 : Int32) x0 ls px0 (lv_sub (l' := [(0, .ref (b 0)), (2, .int 0), (3, .int x0)]) hl [2, 1, 0] rfl) (me_k px0 (by decide))
