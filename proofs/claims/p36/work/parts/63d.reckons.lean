
theorem nuS_le {k : Nat} (hk : k ≤ 12) (f : Nat → Int32) (s : Nat) : nuS k f s ≤ 6 := by
  have h1 := nu_two (adjK k f) k (tb s)
  have h2 := ncn_le (tb s) k
  unfold nuS
  omega
theorem runM_le {k : Nat} (hk : k ≤ 12) {f : Nat → Int32} (_ : Sym k f) {s : Nat} (_ : s < 2 ^ k) (_ : s ≠ 0) : ∀ m, runM k f s m ≤ 7
  | 0 => Nat.le_trans (nuS_le hk f _) (by decide)
  | m + 1 => by
    have h1 := runM_le hk ‹Sym k f› ‹s < 2 ^ k› ‹s ≠ 0› m
    have h2 := nuS_le hk f (rmN (rmN s (lo s)) (lo s + 1 + m))
    show (if _ then _ else _) ≤ 7
    split
    · exact Nat.max_le.mpr ⟨h1, by omega⟩
    · exact h1
set_option maxHeartbeats 4000000 in
set_option maxRecDepth 100000 in
theorem c_X12_all_3 (l : Launch) (D : va_G) (cI cS : ClassId) (h0 h1 h2 h3 h4 h5 h6 h7 h8 h9 h10 h11 h12 h13 h14 h15 : Nat) (x0 x1 x2 x3 x4 x5 x6 x7 x8 : Int32) : Met l yX12_all wsX12_all ({ frames := 0, cells := 0, slots := 0, locals := 0 }) (PS D cI cS [(h0, .inr (12, [.int x0, .int x1, .ref h1, .ref h2, .ref h3, .ref h4, .ref h5, .ref h6, .ref h7, .ref h8, .int x2, .int x3, .int x4, .int x5, .int x6, .int x7, .ref h9, .ref h10, .ref h11, .ref h12, .ref h13, .ref h14, .ref h15, .int x8]))] [.ref h0]) (vp_Si (fun r => r = ((1 : Int32) <<< (x0 &&& 31)) - (1 : Int32))) 0 0 (fun _ => False) := by
  refine Met.ofW (cc := cX12_all) (maxL := 1) (ret := (some .int)) (by decide) rfl ?_
  intro p e s m args below meth c s₁ B hml hv
  obtain ⟨rfl, hP, hKK⟩ := hv
  have hx := B.exec
  have hb := B.bytes
  have hr := B.returns
  have hts := atoms_spec (ws := wsX12_all) B.pre
  have hown : s.vm.findClass RX12 = some m.cls := findClass_of_methodNamed B.named
  have hlocks := B.notSynchronized
  have hK := hKK.1
  have hN := hKK.2
  have hin12 : ∀ w ∈ wsX120, w ∈ wsX12_all := by decide +kernel
  have hl := lv_entry ([.ref h0]) (n := 1) (Nat.le_of_ble_eq_true rfl)
  rw [lg_entry_eq]
  generalize (lg_sl ([.ref h0]) ++ List.replicate (1 - (lg_sl ([.ref h0])).length) Slot.unset).toArray = ls at hl ⊢
  have hl : lv_has ls 1 [(0, .ref h0)] := hl
  refine lv_iconst (v := 1) hx hb dX12_all_0 (by decide) ?_
  refine lv_aload_n hx hb dX12_all_1 rfl (lv_at hl 0 rfl) ?_
  refine va_get (D := D) (ci := 12) (v := .int x0) (C := RX12) (T := TX12) (N := 24) hx hb hts hin12 hown hK hP 0 rfl rfl 0 (by decide) (hts (.fieldLink RX12 63 "MissedPointsModel" "many" "I") (by decide +kernel)) (fun _ h9 => h9) rfl dX12_all_2 ?_
  refine lv_ishl hx hb dX12_all_5 ?_
  refine lv_iconst (v := 1) hx hb dX12_all_6 (by decide) ?_
  refine lv_isub hx hb dX12_all_7 ?_
  exact W.iret (v := ((1 : Int32) <<< (x0 &&& 31)) - (1 : Int32)) hx hb hr (fun t ht hW => ⟨_, rfl, rfl, ht⟩) (fun q hq => absurd hq List.not_mem_nil) dX12_all_8
set_option maxHeartbeats 4000000 in
set_option maxRecDepth 100000 in
theorem c_reckons (l : Launch) (D : va_G) (cI cS : ClassId) (sz : Nat) (h0 h1 h2 h3 h4 h5 h6 h7 h8 h9 h10 h11 h12 h13 h14 h15 : Nat) (w10 w11 w12 w13 w14 w15 w23 : Int32) (g P0 G0 : Nat → Int32) (zv : Int32) (k : Nat) (hk : k ≤ 12) (hv4 : Lo k g) (hsy : Sym k g) (hP0 : P0 0 = 0) : Met l yX12_reckons wsX12_reckons ({ frames := 2, cells := 0, slots := 0, locals := 80 }) (PQ D cI cS [(h0, .inr (12, [.int (nI k), .int zv, .ref h1, .ref h2, .ref h3, .ref h4, .ref h5, .ref h6, .ref h7, .ref h8, .int w10, .int w11, .int w12, .int w13, .int w14, .int w15, .ref h9, .ref h10, .ref h11, .ref h12, .ref h13, .ref h14, .ref h15, .int w23])), (h1, .inl (cI, 12, .inl g)), (h2, .inl (cI, 4096, .inl P0)), (h3, .inl (cI, 4096, .inl G0))] sz [.ref h0]) (QE (S := (Nat → Int32) × (Nat → Int32)) D [(h0, .inr (12, [.int (nI k), .int zv, .ref h1, .ref h2, .ref h3, .ref h4, .ref h5, .ref h6, .ref h7, .ref h8, .int w10, .int w11, .int w12, .int w13, .int w14, .int w15, .ref h9, .ref h10, .ref h11, .ref h12, .ref h13, .ref h14, .ref h15, .int w23])), (h1, .inl (cI, 12, .inl g)), (h2, .inl (cI, 4096, .inl P0)), (h3, .inl (cI, 4096, .inl G0))] (fun u => [(h0, .inr (12, [.int (nI k), .int zv, .ref h1, .ref h2, .ref h3, .ref h4, .ref h5, .ref h6, .ref h7, .ref h8, .int w10, .int w11, .int w12, .int w13, .int w14, .int w15, .ref h9, .ref h10, .ref h11, .ref h12, .ref h13, .ref h14, .ref h15, .int w23])), (h1, .inl (cI, 12, .inl g)), (h2, .inl (cI, 4096, .inl u.1)), (h3, .inl (cI, 4096, .inl u.2))]) sz (fun u => ∀ t, t < 2 ^ k → u.1 t = nI (nuS k g t))) 0 0 (va_A [(h0, .inr (12, [.int (nI k), .int zv, .ref h1, .ref h2, .ref h3, .ref h4, .ref h5, .ref h6, .ref h7, .ref h8, .int w10, .int w11, .int w12, .int w13, .int w14, .int w15, .ref h9, .ref h10, .ref h11, .ref h12, .ref h13, .ref h14, .ref h15, .int w23])), (h1, .inl (cI, 12, .inl g)), (h2, .inl (cI, 4096, .inl P0)), (h3, .inl (cI, 4096, .inl G0))] sz) := by
  refine Met.ofW (cc := cX12_reckons) (maxL := 5) (ret := none) (by decide) rfl ?_
  intro p e s m args below meth c s₁ B hml hv
  obtain ⟨rfl, hsz, hP, hKK, hD0⟩ := hv
  have hx := B.exec
  have hb := B.bytes
  have hr := B.returns
  have hts := atoms_spec (ws := wsX12_reckons) B.pre
  have hown : s.vm.findClass RX12 = some m.cls := findClass_of_methodNamed B.named
  have hlocks := B.notSynchronized
  have hK := hKK.1
  have hN := hKK.2
  have hin12 : ∀ w ∈ wsX120, w ∈ wsX12_reckons := by decide +kernel
  subst hsz
  have hD := hD0.self (sz := s.heap.size)
  obtain ⟨A, hAe⟩ : ∃ A, A = va_A [(h0, .inr (12, [.int (nI k), .int zv, .ref h1, .ref h2, .ref h3, .ref h4, .ref h5, .ref h6, .ref h7, .ref h8, .int w10, .int w11, .int w12, .int w13, .int w14, .int w15, .ref h9, .ref h10, .ref h11, .ref h12, .ref h13, .ref h14, .ref h15, .int w23])), (h1, .inl (cI, 12, .inl g)), (h2, .inl (cI, 4096, .inl P0)), (h3, .inl (cI, 4096, .inl G0))] s.heap.size := ⟨_, rfl⟩
  rw [← hAe] at hD
  have hA : ∀ q : Nat, s.heap.size ≤ q → A q := fun q h => by rw [hAe]; exact Or.inr h
  have hS : va_S A s.heap s.heap [] := va_S.rf
  have hl := lv_entry ([.ref h0]) (n := 5) (Nat.le_of_ble_eq_true rfl)
  rw [lg_entry_eq]
  generalize (lg_sl ([.ref h0]) ++ List.replicate (5 - (lg_sl ([.ref h0])).length) Slot.unset).toArray = ls at hl ⊢
  have hl : lv_has ls 5 [(0, .ref h0)] := hl
  have h2k : 2 ^ k ≤ 4096 := (Nat.pow_le_pow_right (by decide) hk : 2 ^ k ≤ 2 ^ 12)
  have h1k : 1 ≤ 2 ^ k := Nat.one_le_two_pow
  have l1 : ∀ (r st : Nat) (P G : Nat → Int32), st + r = 2 ^ k → 1 ≤ st → (∀ t, t < st → P t = nI (nuS k g t)) → ∀ (ls : Array Slot) (H : Heap) (locs : List Loc), va_P D cls [(h0, .inr (12, [.int (nI k), .int zv, .ref h1, .ref h2, .ref h3, .ref h4, .ref h5, .ref h6, .ref h7, .ref h8, .int w10, .int w11, .int w12, .int w13, .int w14, .int w15, .ref h9, .ref h10, .ref h11, .ref h12, .ref h13, .ref h14, .ref h15, .int w23])), (h1, .inl (cI, 12, .inl g)), (h2, .inl (cI, 4096, .inl P)), (h3, .inl (cI, 4096, .inl G))] H → va_D A [(h0, .inr (12, [.int (nI k), .int zv, .ref h1, .ref h2, .ref h3, .ref h4, .ref h5, .ref h6, .ref h7, .ref h8, .int w10, .int w11, .int w12, .int w13, .int w14, .int w15, .ref h9, .ref h10, .ref h11, .ref h12, .ref h13, .ref h14, .ref h15, .int w23])), (h1, .inl (cI, 12, .inl g)), (h2, .inl (cI, 4096, .inl P)), (h3, .inl (cI, 4096, .inl G))] → va_S A s.heap H locs → lv_has ls 5 [(1, .int (nI st)), (0, .ref h0)] → W p l e (headSpec wsX12_reckons ({ frames := 2, cells := 0, slots := 0, locals := 80 })).room s m ([.ref h0]).toArray below meth c H locs 0 0 (MQ below (QE (S := (Nat → Int32) × (Nat → Int32)) D [(h0, .inr (12, [.int (nI k), .int zv, .ref h1, .ref h2, .ref h3, .ref h4, .ref h5, .ref h6, .ref h7, .ref h8, .int w10, .int w11, .int w12, .int w13, .int w14, .int w15, .ref h9, .ref h10, .ref h11, .ref h12, .ref h13, .ref h14, .ref h15, .int w23])), (h1, .inl (cI, 12, .inl g)), (h2, .inl (cI, 4096, .inl P0)), (h3, .inl (cI, 4096, .inl G0))] (fun u => [(h0, .inr (12, [.int (nI k), .int zv, .ref h1, .ref h2, .ref h3, .ref h4, .ref h5, .ref h6, .ref h7, .ref h8, .int w10, .int w11, .int w12, .int w13, .int w14, .int w15, .ref h9, .ref h10, .ref h11, .ref h12, .ref h13, .ref h14, .ref h15, .int w23])), (h1, .inl (cI, 12, .inl g)), (h2, .inl (cI, 4096, .inl u.1)), (h3, .inl (cI, 4096, .inl u.2))]) s.heap.size (fun u => ∀ t, t < 2 ^ k → u.1 t = nI (nuS k g t))) ([.ref h0]).toArray s 0 0 (va_A [(h0, .inr (12, [.int (nI k), .int zv, .ref h1, .ref h2, .ref h3, .ref h4, .ref h5, .ref h6, .ref h7, .ref h8, .int w10, .int w11, .int w12, .int w13, .int w14, .int w15, .ref h9, .ref h10, .ref h11, .ref h12, .ref h13, .ref h14, .ref h15, .int w23])), (h1, .inl (cI, 12, .inl g)), (h2, .inl (cI, 4096, .inl P0)), (h3, .inl (cI, 4096, .inl G0))] s.heap.size)) (F0 m 9 ls []) := by
    intro r
    induction r with
    | zero =>
      intro st P G hst b1 hPt ls H locs hP hD hS hl
      refine lv_iload_n hx hb dX12_reckons_9 rfl (lv_at hl 0 rfl) ?_
      refine lv_aload_n hx hb dX12_reckons_10 rfl (lv_at hl 1 rfl) ?_
      have hPc := hP.sub (ws' := [(h0, .inr (12, [.int (nI k), .int zv, .ref h1, .ref h2, .ref h3, .ref h4, .ref h5, .ref h6, .ref h7, .ref h8, .int w10, .int w11, .int w12, .int w13, .int w14, .int w15, .ref h9, .ref h10, .ref h11, .ref h12, .ref h13, .ref h14, .ref h15, .int w23]))]) [0] rfl
      refine lz_sv (As := []) (rest := [.int (nI st)]) ⟨hx, hb, hml, hown, hts⟩ (c_X12_all_3 l D cI cS h0 h1 h2 h3 h4 h5 h6 h7 h8 h9 h10 h11 h12 h13 h14 h15 (nI k) zv w10 w11 w12 w13 w14 w15 w23) hKK hPc (ci := 12) rfl rfl (cwV 0 hts gX12_reckons_X12_all rfl rfl rfl (by decide +kernel) ⟨Nat.le_of_ble_eq_true rfl, Nat.le_of_ble_eq_true rfl⟩) rfl hl.1 rfl (Nat.le_of_ble_eq_true rfl) dX12_reckons_11 ⟨Nat.le_of_ble_eq_true rfl, Nat.le_of_ble_eq_true rfl⟩ (fun r4924 hw => ?_)
      subst hw
      refine lz_top (y := (nI (2 ^ k - 1))) (all_eq k (by omega)) ?_
      refine lv_icmp_gt (tgt := 238) hx hb dX12_reckons_14 (by decide) (fun c4925 => ?_) (fun c4925 => ?_)
      · have hP9 := hP.sub (ws' := [(h0, .inr (12, [.int (nI k), .int zv, .ref h1, .ref h2, .ref h3, .ref h4, .ref h5, .ref h6, .ref h7, .ref h8, .int w10, .int w11, .int w12, .int w13, .int w14, .int w15, .ref h9, .ref h10, .ref h11, .ref h12, .ref h13, .ref h14, .ref h15, .int w23])), (h1, .inl (cI, 12, .inl g)), (h2, .inl (cI, 4096, .inl P)), (h3, .inl (cI, 4096, .inl G))]) [0, 1, 2, 3] rfl
        have hD9 := hD.sub (ws' := [(h0, .inr (12, [.int (nI k), .int zv, .ref h1, .ref h2, .ref h3, .ref h4, .ref h5, .ref h6, .ref h7, .ref h8, .int w10, .int w11, .int w12, .int w13, .int w14, .int w15, .ref h9, .ref h10, .ref h11, .ref h12, .ref h13, .ref h14, .ref h15, .int w23])), (h1, .inl (cI, 12, .inl g)), (h2, .inl (cI, 4096, .inl P)), (h3, .inl (cI, 4096, .inl G))]) [0, 1, 2, 3] (by decide) rfl
        subst hAe
        exact W.vret hx hb hr (fun t ht hW => ⟨⟨(P, G), rfl, fun t ht9 => hPt t (by omega), by rw [ht]; exact hP9, hD9⟩, hS.F ht⟩) hS.2.2 dX12_reckons_238
      · exact absurd (nI_lt (show 2 ^ k - 1 < st by omega) (by omega)) c4925
    | succ r ih =>
      intro st P G hst b1 hPt ls H locs hP hD hS hl
      have hst4 : st < 4096 := by omega
      obtain ⟨lo1, lo2, lo3⟩ := lo_of hst4 (by omega)
      have hrs : rmN st (lo st) < st := by rw [← lo3]; have := Nat.and_le_right (n := st) (m := st - 1); omega
      have hlk : lo st < k := by
        rcases Nat.lt_or_ge (lo st) k with q | q
        · exact q
        · have := Nat.testBit_lt_two_pow (Nat.lt_of_lt_of_le (show st < 2 ^ k by omega) (Nat.pow_le_pow_right (by decide) q))
          rw [this] at lo2
          cases lo2
      have hre := runM_end hk hsy (show st < 2 ^ k by omega) (by omega)
      obtain ⟨v, hv, ev⟩ := hv4 (lo st) hlk
      have ebit : ∀ q, q < 12 → bitI (g (lo st)) q = v.testBit q := fun q hq => by rw [ev, bitI_nI (by omega)]
      generalize hpt : lo st = pt at *
      generalize hrs0 : rmN st pt = rs at *
      have l3 : ∀ (r2 q : Nat) (P G : Nat → Int32), pt + 1 + q + r2 = k → (∀ t, t < st + 1 → P t = nI (nuS k g t)) → ∀ (ls : Array Slot) (H : Heap) (locs : List Loc), va_P D cls [(h0, .inr (12, [.int (nI k), .int zv, .ref h1, .ref h2, .ref h3, .ref h4, .ref h5, .ref h6, .ref h7, .ref h8, .int w10, .int w11, .int w12, .int w13, .int w14, .int w15, .ref h9, .ref h10, .ref h11, .ref h12, .ref h13, .ref h14, .ref h15, .int w23])), (h1, .inl (cI, 12, .inl g)), (h2, .inl (cI, 4096, .inl P)), (h3, .inl (cI, 4096, .inl G))] H → va_D A [(h0, .inr (12, [.int (nI k), .int zv, .ref h1, .ref h2, .ref h3, .ref h4, .ref h5, .ref h6, .ref h7, .ref h8, .int w10, .int w11, .int w12, .int w13, .int w14, .int w15, .ref h9, .ref h10, .ref h11, .ref h12, .ref h13, .ref h14, .ref h15, .int w23])), (h1, .inl (cI, 12, .inl g)), (h2, .inl (cI, 4096, .inl P)), (h3, .inl (cI, 4096, .inl G))] → va_S A s.heap H locs → lv_has ls 5 [(4, .int (nI (pt + 1 + q))), (3, .int (nI rs)), (2, .int (nI pt)), (1, .int (nI st)), (0, .ref h0)] → W p l e (headSpec wsX12_reckons ({ frames := 2, cells := 0, slots := 0, locals := 80 })).room s m ([.ref h0]).toArray below meth c H locs 0 0 (MQ below (QE (S := (Nat → Int32) × (Nat → Int32)) D [(h0, .inr (12, [.int (nI k), .int zv, .ref h1, .ref h2, .ref h3, .ref h4, .ref h5, .ref h6, .ref h7, .ref h8, .int w10, .int w11, .int w12, .int w13, .int w14, .int w15, .ref h9, .ref h10, .ref h11, .ref h12, .ref h13, .ref h14, .ref h15, .int w23])), (h1, .inl (cI, 12, .inl g)), (h2, .inl (cI, 4096, .inl P0)), (h3, .inl (cI, 4096, .inl G0))] (fun u => [(h0, .inr (12, [.int (nI k), .int zv, .ref h1, .ref h2, .ref h3, .ref h4, .ref h5, .ref h6, .ref h7, .ref h8, .int w10, .int w11, .int w12, .int w13, .int w14, .int w15, .ref h9, .ref h10, .ref h11, .ref h12, .ref h13, .ref h14, .ref h15, .int w23])), (h1, .inl (cI, 12, .inl g)), (h2, .inl (cI, 4096, .inl u.1)), (h3, .inl (cI, 4096, .inl u.2))]) s.heap.size (fun u => ∀ t, t < 2 ^ k → u.1 t = nI (nuS k g t))) ([.ref h0]).toArray s 0 0 (va_A [(h0, .inr (12, [.int (nI k), .int zv, .ref h1, .ref h2, .ref h3, .ref h4, .ref h5, .ref h6, .ref h7, .ref h8, .int w10, .int w11, .int w12, .int w13, .int w14, .int w15, .ref h9, .ref h10, .ref h11, .ref h12, .ref h13, .ref h14, .ref h15, .int w23])), (h1, .inl (cI, 12, .inl g)), (h2, .inl (cI, 4096, .inl P0)), (h3, .inl (cI, 4096, .inl G0))] s.heap.size)) (F0 m 155 ls []) := by
        intro r2
        induction r2 with
        | zero =>
          intro q P G hq hPt ls H locs hP hD hS hl
          refine lv_iload hx hb dX12_reckons_155 (lv_at hl 0 rfl) ?_
          refine lv_aload_n hx hb dX12_reckons_157 rfl (lv_at hl 4 rfl) ?_
          refine va_get (D := D) (ci := 12) (v := .int (nI k)) (C := RX12) (T := TX12) (N := 24) hx hb hts hin12 hown hK hP 0 rfl rfl 0 (by decide) (hts (.fieldLink RX12 63 "MissedPointsModel" "many" "I") (by decide +kernel)) (fun _ h9 => h9) rfl dX12_reckons_158 ?_
          refine lv_icmp_ge (tgt := 232) hx hb dX12_reckons_161 (by decide) (fun c4926 => ?_) (fun c4926 => ?_)
          · refine lv_iinc (v := (nI (st + 1))) (lv' := [(1, .int (nI (st + 1))), (4, .int (nI (pt + 1 + q))), (3, .int (nI rs)), (2, .int (nI pt)), (0, .ref h0)]) hx hb dX12_reckons_232 hl (k := 3) rfl (nI_1 _) (by decide) rfl (fun ls hl => ?_)
            refine lv_goto (tgt := 9) hx hb dX12_reckons_235 (by decide) ?_
            exact ih (st + 1) P G (by omega) (by omega) hPt ls H locs hP hD hS (lv_sub hl [0, 4] rfl)
          · exact absurd (nI_le (show k ≤ pt + 1 + q by omega) (by omega)) c4926
        | succ r2 ih2 =>
          intro q P G hq hPt ls H locs hP hD hS hl
          have hrm : rmN rs (pt + 1 + q) ≤ rs := Nat.and_le_left
          cases hb9 : (rs &&& v).testBit (pt + 1 + q)
          · refine lv_iload hx hb dX12_reckons_155 (lv_at hl 0 rfl) ?_
            refine lv_aload_n hx hb dX12_reckons_157 rfl (lv_at hl 4 rfl) ?_
            refine va_get (D := D) (ci := 12) (v := .int (nI k)) (C := RX12) (T := TX12) (N := 24) hx hb hts hin12 hown hK hP 0 rfl rfl 0 (by decide) (hts (.fieldLink RX12 63 "MissedPointsModel" "many" "I") (by decide +kernel)) (fun _ h9 => h9) rfl dX12_reckons_158 ?_
            refine lv_icmp_ge (tgt := 232) hx hb dX12_reckons_161 (by decide) (fun c4927 => ?_) (fun c4927 => ?_)
            · exact absurd c4927 (nI_ge (show pt + 1 + q < k by omega) (by omega))
            · refine lv_iload_n hx hb dX12_reckons_164 rfl (lv_at hl 1 rfl) ?_
              refine lv_aload_n hx hb dX12_reckons_165 rfl (lv_at hl 4 rfl) ?_
              refine va_get (D := D) (ci := 12) (v := .ref h1) (C := RX12) (T := TX12) (N := 24) hx hb hts hin12 hown hK hP 0 rfl rfl 2 (by decide) (hts (.fieldLink RX12 13 "MissedPointsModel" "near" "[I") (by decide +kernel)) (fun _ h9 => h9) rfl dX12_reckons_166 ?_
              refine lv_iload_n hx hb dX12_reckons_169 rfl (lv_at hl 2 rfl) ?_
              refine lz_ald hx hb hK hP 1 0 rfl rfl pt ⟨by omega, Nat.le_of_ble_eq_true rfl⟩ dX12_reckons_170 ?_
              refine lz_top (y := (nI v)) (ev) ?_
              refine lv_iand hx hb dX12_reckons_171 ?_
              refine lz_top (y := (nI (rs &&& v))) (fa_and _ _) ?_
              refine lv_iload hx hb dX12_reckons_172 (lv_at hl 0 rfl) ?_
              have hPc := hP.sub (ws' := []) [] rfl
              refine lz_ss (As := [.int (nI (rs &&& v)), .int (nI (pt + 1 + q))]) (rest := []) ⟨hx, hb, hml, hown, hts⟩ (c_has0 l D cI cS (rs &&& v) (pt + 1 + q) (by have := Nat.and_le_left (n := rs) (m := v); omega) (by omega) hb9) hKK hPc (va_cwS 2 hts gX12_reckons_X12_has rfl rfl rfl (by decide +kernel) ⟨Nat.le_of_ble_eq_true rfl, Nat.le_of_ble_eq_true rfl⟩) rfl hl.1 rfl (Nat.le_of_ble_eq_true rfl) dX12_reckons_174 ⟨Nat.le_of_ble_eq_true rfl, Nat.le_of_ble_eq_true rfl⟩ (fun r9 hw => ?_)
              subst hw
              refine lv_if_eq (tgt := 226) hx hb dX12_reckons_177 (by decide) (fun c4928 => ?_) (fun c4928 => ?_)
              · refine lv_iinc (v := (nI (pt + 1 + (q + 1)))) (lv' := [(4, .int (nI (pt + 1 + (q + 1)))), (3, .int (nI rs)), (2, .int (nI pt)), (1, .int (nI st)), (0, .ref h0)]) hx hb dX12_reckons_226 hl (k := 0) rfl (nI_1 _) (by decide) rfl (fun ls hl => ?_)
                refine lv_goto (tgt := 155) hx hb dX12_reckons_229 (by decide) ?_
                exact ih2 (q + 1) P G (by omega) hPt ls H locs hP hD hS hl
              · exact absurd c4928 (by decide)
          · refine lv_iload hx hb dX12_reckons_155 (lv_at hl 0 rfl) ?_
            refine lv_aload_n hx hb dX12_reckons_157 rfl (lv_at hl 4 rfl) ?_
            refine va_get (D := D) (ci := 12) (v := .int (nI k)) (C := RX12) (T := TX12) (N := 24) hx hb hts hin12 hown hK hP 0 rfl rfl 0 (by decide) (hts (.fieldLink RX12 63 "MissedPointsModel" "many" "I") (by decide +kernel)) (fun _ h9 => h9) rfl dX12_reckons_158 ?_
            refine lv_icmp_ge (tgt := 232) hx hb dX12_reckons_161 (by decide) (fun c4929 => ?_) (fun c4929 => ?_)
            · exact absurd c4929 (nI_ge (show pt + 1 + q < k by omega) (by omega))
            · refine lv_iload_n hx hb dX12_reckons_164 rfl (lv_at hl 1 rfl) ?_
              refine lv_aload_n hx hb dX12_reckons_165 rfl (lv_at hl 4 rfl) ?_
              refine va_get (D := D) (ci := 12) (v := .ref h1) (C := RX12) (T := TX12) (N := 24) hx hb hts hin12 hown hK hP 0 rfl rfl 2 (by decide) (hts (.fieldLink RX12 13 "MissedPointsModel" "near" "[I") (by decide +kernel)) (fun _ h9 => h9) rfl dX12_reckons_166 ?_
              refine lv_iload_n hx hb dX12_reckons_169 rfl (lv_at hl 2 rfl) ?_
              refine lz_ald hx hb hK hP 1 0 rfl rfl pt ⟨by omega, Nat.le_of_ble_eq_true rfl⟩ dX12_reckons_170 ?_
              refine lz_top (y := (nI v)) (ev) ?_
              refine lv_iand hx hb dX12_reckons_171 ?_
              refine lz_top (y := (nI (rs &&& v))) (fa_and _ _) ?_
              refine lv_iload hx hb dX12_reckons_172 (lv_at hl 0 rfl) ?_
              have hPc := hP.sub (ws' := []) [] rfl
              refine lz_ss (As := [.int (nI (rs &&& v)), .int (nI (pt + 1 + q))]) (rest := []) ⟨hx, hb, hml, hown, hts⟩ (c_has1 l D cI cS (rs &&& v) (pt + 1 + q) (by have := Nat.and_le_left (n := rs) (m := v); omega) (by omega) hb9) hKK hPc (va_cwS 2 hts gX12_reckons_X12_has rfl rfl rfl (by decide +kernel) ⟨Nat.le_of_ble_eq_true rfl, Nat.le_of_ble_eq_true rfl⟩) rfl hl.1 rfl (Nat.le_of_ble_eq_true rfl) dX12_reckons_174 ⟨Nat.le_of_ble_eq_true rfl, Nat.le_of_ble_eq_true rfl⟩ (fun r9 hw => ?_)
              subst hw
              refine lv_if_eq (tgt := 226) hx hb dX12_reckons_177 (by decide) (fun c4930 => ?_) (fun c4930 => ?_)
              · exact absurd c4930 (by decide)
              · refine lv_aload_n hx hb dX12_reckons_180 rfl (lv_at hl 4 rfl) ?_
                refine va_get (D := D) (ci := 12) (v := .ref h2) (C := RX12) (T := TX12) (N := 24) hx hb hts hin12 hown hK hP 0 rfl rfl 3 (by decide) (hts (.fieldLink RX12 17 "MissedPointsModel" "pairs" "[I") (by decide +kernel)) (fun _ h9 => h9) rfl dX12_reckons_181 ?_
                refine lv_iload_n hx hb dX12_reckons_184 rfl (lv_at hl 1 rfl) ?_
                refine lv_iconst (v := 1) hx hb dX12_reckons_185 (by decide) ?_
                refine lv_iload hx hb dX12_reckons_186 (lv_at hl 0 rfl) ?_
                refine lv_ishl hx hb dX12_reckons_188 ?_
                refine lv_iconst (v := (-1)) hx hb dX12_reckons_189 (by decide) ?_
                refine lv_ixor hx hb dX12_reckons_190 ?_
                refine lv_iand hx hb dX12_reckons_191 ?_
                refine lz_top (y := (nI (rmN rs (pt + 1 + q)))) (rmN_I (by omega) (by omega)) ?_
                refine lz_ald hx hb hK hP 2 0 rfl rfl (rmN rs (pt + 1 + q)) ⟨by omega, Nat.le_of_ble_eq_true rfl⟩ dX12_reckons_192 ?_
                refine lv_iconst (v := 1) hx hb dX12_reckons_193 (by decide) ?_
                refine lv_iadd hx hb dX12_reckons_194 ?_
                refine lv_aload_n hx hb dX12_reckons_195 rfl (lv_at hl 4 rfl) ?_
                refine va_get (D := D) (ci := 12) (v := .ref h2) (C := RX12) (T := TX12) (N := 24) hx hb hts hin12 hown hK hP 0 rfl rfl 3 (by decide) (hts (.fieldLink RX12 17 "MissedPointsModel" "pairs" "[I") (by decide +kernel)) (fun _ h9 => h9) rfl dX12_reckons_196 ?_
                refine lv_iload_n hx hb dX12_reckons_199 rfl (lv_at hl 3 rfl) ?_
                refine lz_ald hx hb hK hP 2 0 rfl rfl st ⟨by omega, Nat.le_of_ble_eq_true rfl⟩ dX12_reckons_200 ?_
                refine lv_icmp_ne (tgt := 226) hx hb dX12_reckons_201 (by decide) (fun c4931 => ?_) (fun c4931 => ?_)
                · refine lv_iinc (v := (nI (pt + 1 + (q + 1)))) (lv' := [(4, .int (nI (pt + 1 + (q + 1)))), (3, .int (nI rs)), (2, .int (nI pt)), (1, .int (nI st)), (0, .ref h0)]) hx hb dX12_reckons_226 hl (k := 0) rfl (nI_1 _) (by decide) rfl (fun ls hl => ?_)
                  refine lv_goto (tgt := 155) hx hb dX12_reckons_229 (by decide) ?_
                  exact ih2 (q + 1) P G (by omega) hPt ls H locs hP hD hS hl
                · refine lv_aload_n hx hb dX12_reckons_204 rfl (lv_at hl 4 rfl) ?_
                  refine va_get (D := D) (ci := 12) (v := .ref h3) (C := RX12) (T := TX12) (N := 24) hx hb hts hin12 hown hK hP 0 rfl rfl 4 (by decide) (hts (.fieldLink RX12 20 "MissedPointsModel" "greatestWays" "[I") (by decide +kernel)) (fun _ h9 => h9) rfl dX12_reckons_205 ?_
                  refine lv_iload_n hx hb dX12_reckons_208 rfl (lv_at hl 3 rfl) ?_
                  refine lv_dup2_11 hx hb dX12_reckons_209 rfl rfl ?_
                  refine lz_ald hx hb hK hP 3 0 rfl rfl st ⟨by omega, Nat.le_of_ble_eq_true rfl⟩ dX12_reckons_210 ?_
                  refine lv_aload_n hx hb dX12_reckons_211 rfl (lv_at hl 4 rfl) ?_
                  refine va_get (D := D) (ci := 12) (v := .ref h3) (C := RX12) (T := TX12) (N := 24) hx hb hts hin12 hown hK hP 0 rfl rfl 4 (by decide) (hts (.fieldLink RX12 20 "MissedPointsModel" "greatestWays" "[I") (by decide +kernel)) (fun _ h9 => h9) rfl dX12_reckons_212 ?_
                  refine lv_iload_n hx hb dX12_reckons_215 rfl (lv_at hl 1 rfl) ?_
                  refine lv_iconst (v := 1) hx hb dX12_reckons_216 (by decide) ?_
                  refine lv_iload hx hb dX12_reckons_217 (lv_at hl 0 rfl) ?_
                  refine lv_ishl hx hb dX12_reckons_219 ?_
                  refine lv_iconst (v := (-1)) hx hb dX12_reckons_220 (by decide) ?_
                  refine lv_ixor hx hb dX12_reckons_221 ?_
                  refine lv_iand hx hb dX12_reckons_222 ?_
                  refine lz_top (y := (nI (rmN rs (pt + 1 + q)))) (rmN_I (by omega) (by omega)) ?_
                  refine lz_ald hx hb hK hP 3 0 rfl rfl (rmN rs (pt + 1 + q)) ⟨by omega, Nat.le_of_ble_eq_true rfl⟩ dX12_reckons_223 ?_
                  refine lv_iadd hx hb dX12_reckons_224 ?_
                  refine lz_ast hx hb hK hP hD hS 3 0 rfl rfl st ⟨by omega, Nat.le_of_ble_eq_true rfl⟩ dX12_reckons_225 (fun H locs hP hD hS => ?_)
                  have hP : va_P D cls [(h0, .inr (12, [.int (nI k), .int zv, .ref h1, .ref h2, .ref h3, .ref h4, .ref h5, .ref h6, .ref h7, .ref h8, .int w10, .int w11, .int w12, .int w13, .int w14, .int w15, .ref h9, .ref h10, .ref h11, .ref h12, .ref h13, .ref h14, .ref h15, .int w23])), (h1, .inl (cI, 12, .inl g)), (h2, .inl (cI, 4096, .inl P)), (h3, .inl (cI, 4096, .inl (upd G st ((G st) + (G (rmN rs (pt + 1 + q)))))))] H := hP
                  have hD : va_D A [(h0, .inr (12, [.int (nI k), .int zv, .ref h1, .ref h2, .ref h3, .ref h4, .ref h5, .ref h6, .ref h7, .ref h8, .int w10, .int w11, .int w12, .int w13, .int w14, .int w15, .ref h9, .ref h10, .ref h11, .ref h12, .ref h13, .ref h14, .ref h15, .int w23])), (h1, .inl (cI, 12, .inl g)), (h2, .inl (cI, 4096, .inl P)), (h3, .inl (cI, 4096, .inl (upd G st ((G st) + (G (rmN rs (pt + 1 + q)))))))] := hD
                  refine lv_iinc (v := (nI (pt + 1 + (q + 1)))) (lv' := [(4, .int (nI (pt + 1 + (q + 1)))), (3, .int (nI rs)), (2, .int (nI pt)), (1, .int (nI st)), (0, .ref h0)]) hx hb dX12_reckons_226 hl (k := 0) rfl (nI_1 _) (by decide) rfl (fun ls hl => ?_)
                  refine lv_goto (tgt := 155) hx hb dX12_reckons_229 (by decide) ?_
                  exact ih2 (q + 1) P (upd G st ((G st) + (G (rmN rs (pt + 1 + q))))) (by omega) hPt ls H locs hP hD hS hl
      have l2 : ∀ (r2 q : Nat) (P G : Nat → Int32), pt + 1 + q + r2 = k → (∀ t, t < st → P t = nI (nuS k g t)) → P st = nI (runM k g st q) → ∀ (ls : Array Slot) (H : Heap) (locs : List Loc), va_P D cls [(h0, .inr (12, [.int (nI k), .int zv, .ref h1, .ref h2, .ref h3, .ref h4, .ref h5, .ref h6, .ref h7, .ref h8, .int w10, .int w11, .int w12, .int w13, .int w14, .int w15, .ref h9, .ref h10, .ref h11, .ref h12, .ref h13, .ref h14, .ref h15, .int w23])), (h1, .inl (cI, 12, .inl g)), (h2, .inl (cI, 4096, .inl P)), (h3, .inl (cI, 4096, .inl G))] H → va_D A [(h0, .inr (12, [.int (nI k), .int zv, .ref h1, .ref h2, .ref h3, .ref h4, .ref h5, .ref h6, .ref h7, .ref h8, .int w10, .int w11, .int w12, .int w13, .int w14, .int w15, .ref h9, .ref h10, .ref h11, .ref h12, .ref h13, .ref h14, .ref h15, .int w23])), (h1, .inl (cI, 12, .inl g)), (h2, .inl (cI, 4096, .inl P)), (h3, .inl (cI, 4096, .inl G))] → va_S A s.heap H locs → lv_has ls 5 [(4, .int (nI (pt + 1 + q))), (3, .int (nI rs)), (2, .int (nI pt)), (1, .int (nI st)), (0, .ref h0)] → W p l e (headSpec wsX12_reckons ({ frames := 2, cells := 0, slots := 0, locals := 80 })).room s m ([.ref h0]).toArray below meth c H locs 0 0 (MQ below (QE (S := (Nat → Int32) × (Nat → Int32)) D [(h0, .inr (12, [.int (nI k), .int zv, .ref h1, .ref h2, .ref h3, .ref h4, .ref h5, .ref h6, .ref h7, .ref h8, .int w10, .int w11, .int w12, .int w13, .int w14, .int w15, .ref h9, .ref h10, .ref h11, .ref h12, .ref h13, .ref h14, .ref h15, .int w23])), (h1, .inl (cI, 12, .inl g)), (h2, .inl (cI, 4096, .inl P0)), (h3, .inl (cI, 4096, .inl G0))] (fun u => [(h0, .inr (12, [.int (nI k), .int zv, .ref h1, .ref h2, .ref h3, .ref h4, .ref h5, .ref h6, .ref h7, .ref h8, .int w10, .int w11, .int w12, .int w13, .int w14, .int w15, .ref h9, .ref h10, .ref h11, .ref h12, .ref h13, .ref h14, .ref h15, .int w23])), (h1, .inl (cI, 12, .inl g)), (h2, .inl (cI, 4096, .inl u.1)), (h3, .inl (cI, 4096, .inl u.2))]) s.heap.size (fun u => ∀ t, t < 2 ^ k → u.1 t = nI (nuS k g t))) ([.ref h0]).toArray s 0 0 (va_A [(h0, .inr (12, [.int (nI k), .int zv, .ref h1, .ref h2, .ref h3, .ref h4, .ref h5, .ref h6, .ref h7, .ref h8, .int w10, .int w11, .int w12, .int w13, .int w14, .int w15, .ref h9, .ref h10, .ref h11, .ref h12, .ref h13, .ref h14, .ref h15, .int w23])), (h1, .inl (cI, 12, .inl g)), (h2, .inl (cI, 4096, .inl P0)), (h3, .inl (cI, 4096, .inl G0))] s.heap.size)) (F0 m 45 ls []) := by
        intro r2
        induction r2 with
        | zero =>
          intro q P G hq hPt hPs ls H locs hP hD hS hl
          have hPt2 : ∀ t, t < st + 1 → P t = nI (nuS k g t) := fun t ht9 => by
            rcases Nat.lt_or_ge t st with z | z
            · exact hPt t z
            · rw [show t = st by omega, hPs, ← hre, show k - (pt + 1) = q by omega]
          refine lv_iload hx hb dX12_reckons_45 (lv_at hl 0 rfl) ?_
          refine lv_aload_n hx hb dX12_reckons_47 rfl (lv_at hl 4 rfl) ?_
          refine va_get (D := D) (ci := 12) (v := .int (nI k)) (C := RX12) (T := TX12) (N := 24) hx hb hts hin12 hown hK hP 0 rfl rfl 0 (by decide) (hts (.fieldLink RX12 63 "MissedPointsModel" "many" "I") (by decide +kernel)) (fun _ h9 => h9) rfl dX12_reckons_48 ?_
          refine lv_icmp_ge (tgt := 119) hx hb dX12_reckons_51 (by decide) (fun c4932 => ?_) (fun c4932 => ?_)
          · refine lv_aload_n hx hb dX12_reckons_119 rfl (lv_at hl 4 rfl) ?_
            refine va_get (D := D) (ci := 12) (v := .ref h3) (C := RX12) (T := TX12) (N := 24) hx hb hts hin12 hown hK hP 0 rfl rfl 4 (by decide) (hts (.fieldLink RX12 20 "MissedPointsModel" "greatestWays" "[I") (by decide +kernel)) (fun _ h9 => h9) rfl dX12_reckons_120 ?_
            refine lv_iload_n hx hb dX12_reckons_123 rfl (lv_at hl 3 rfl) ?_
            refine lv_aload_n hx hb dX12_reckons_124 rfl (lv_at hl 4 rfl) ?_
            refine va_get (D := D) (ci := 12) (v := .ref h2) (C := RX12) (T := TX12) (N := 24) hx hb hts hin12 hown hK hP 0 rfl rfl 3 (by decide) (hts (.fieldLink RX12 17 "MissedPointsModel" "pairs" "[I") (by decide +kernel)) (fun _ h9 => h9) rfl dX12_reckons_125 ?_
            refine lv_iload_n hx hb dX12_reckons_128 rfl (lv_at hl 1 rfl) ?_
            refine lz_ald hx hb hK hP 2 0 rfl rfl rs ⟨by omega, Nat.le_of_ble_eq_true rfl⟩ dX12_reckons_129 ?_
            refine lv_aload_n hx hb dX12_reckons_130 rfl (lv_at hl 4 rfl) ?_
            refine va_get (D := D) (ci := 12) (v := .ref h2) (C := RX12) (T := TX12) (N := 24) hx hb hts hin12 hown hK hP 0 rfl rfl 3 (by decide) (hts (.fieldLink RX12 17 "MissedPointsModel" "pairs" "[I") (by decide +kernel)) (fun _ h9 => h9) rfl dX12_reckons_131 ?_
            refine lv_iload_n hx hb dX12_reckons_134 rfl (lv_at hl 3 rfl) ?_
            refine lz_ald hx hb hK hP 2 0 rfl rfl st ⟨by omega, Nat.le_of_ble_eq_true rfl⟩ dX12_reckons_135 ?_
            refine lv_icmp_ne (tgt := 148) hx hb dX12_reckons_136 (by decide) (fun c4933 => ?_) (fun c4933 => ?_)
            · refine lv_iconst (v := 0) hx hb dX12_reckons_148 (by decide) ?_
              refine lz_ast hx hb hK hP hD hS 3 0 rfl rfl st ⟨by omega, Nat.le_of_ble_eq_true rfl⟩ dX12_reckons_149 (fun H locs hP hD hS => ?_)
              have hP : va_P D cls [(h0, .inr (12, [.int (nI k), .int zv, .ref h1, .ref h2, .ref h3, .ref h4, .ref h5, .ref h6, .ref h7, .ref h8, .int w10, .int w11, .int w12, .int w13, .int w14, .int w15, .ref h9, .ref h10, .ref h11, .ref h12, .ref h13, .ref h14, .ref h15, .int w23])), (h1, .inl (cI, 12, .inl g)), (h2, .inl (cI, 4096, .inl P)), (h3, .inl (cI, 4096, .inl (upd G st 0)))] H := hP
              have hD : va_D A [(h0, .inr (12, [.int (nI k), .int zv, .ref h1, .ref h2, .ref h3, .ref h4, .ref h5, .ref h6, .ref h7, .ref h8, .int w10, .int w11, .int w12, .int w13, .int w14, .int w15, .ref h9, .ref h10, .ref h11, .ref h12, .ref h13, .ref h14, .ref h15, .int w23])), (h1, .inl (cI, 12, .inl g)), (h2, .inl (cI, 4096, .inl P)), (h3, .inl (cI, 4096, .inl (upd G st 0)))] := hD
              refine lv_iload_n hx hb dX12_reckons_150 rfl (lv_at hl 2 rfl) ?_
              refine lv_iconst (v := 1) hx hb dX12_reckons_151 (by decide) ?_
              refine lv_iadd hx hb dX12_reckons_152 ?_
              refine lz_top (y := (nI (pt + 1))) (nI_1 _) ?_
              refine lv_istore (lv' := [(4, .int (nI (pt + 1))), (3, .int (nI rs)), (2, .int (nI pt)), (1, .int (nI st)), (0, .ref h0)]) hx hb dX12_reckons_153 hl (by decide) rfl (fun ls hl => ?_)
              exact l3 (k - (pt + 1)) 0 P (upd G st 0) (by omega) hPt2 ls H locs hP hD hS hl
            · refine lv_aload_n hx hb dX12_reckons_139 rfl (lv_at hl 4 rfl) ?_
              refine va_get (D := D) (ci := 12) (v := .ref h3) (C := RX12) (T := TX12) (N := 24) hx hb hts hin12 hown hK hP 0 rfl rfl 4 (by decide) (hts (.fieldLink RX12 20 "MissedPointsModel" "greatestWays" "[I") (by decide +kernel)) (fun _ h9 => h9) rfl dX12_reckons_140 ?_
              refine lv_iload_n hx hb dX12_reckons_143 rfl (lv_at hl 1 rfl) ?_
              refine lz_ald hx hb hK hP 3 0 rfl rfl rs ⟨by omega, Nat.le_of_ble_eq_true rfl⟩ dX12_reckons_144 ?_
              refine lv_goto (tgt := 149) hx hb dX12_reckons_145 (by decide) ?_
              refine lz_ast hx hb hK hP hD hS 3 0 rfl rfl st ⟨by omega, Nat.le_of_ble_eq_true rfl⟩ dX12_reckons_149 (fun H locs hP hD hS => ?_)
              have hP : va_P D cls [(h0, .inr (12, [.int (nI k), .int zv, .ref h1, .ref h2, .ref h3, .ref h4, .ref h5, .ref h6, .ref h7, .ref h8, .int w10, .int w11, .int w12, .int w13, .int w14, .int w15, .ref h9, .ref h10, .ref h11, .ref h12, .ref h13, .ref h14, .ref h15, .int w23])), (h1, .inl (cI, 12, .inl g)), (h2, .inl (cI, 4096, .inl P)), (h3, .inl (cI, 4096, .inl (upd G st (G rs))))] H := hP
              have hD : va_D A [(h0, .inr (12, [.int (nI k), .int zv, .ref h1, .ref h2, .ref h3, .ref h4, .ref h5, .ref h6, .ref h7, .ref h8, .int w10, .int w11, .int w12, .int w13, .int w14, .int w15, .ref h9, .ref h10, .ref h11, .ref h12, .ref h13, .ref h14, .ref h15, .int w23])), (h1, .inl (cI, 12, .inl g)), (h2, .inl (cI, 4096, .inl P)), (h3, .inl (cI, 4096, .inl (upd G st (G rs))))] := hD
              refine lv_iload_n hx hb dX12_reckons_150 rfl (lv_at hl 2 rfl) ?_
              refine lv_iconst (v := 1) hx hb dX12_reckons_151 (by decide) ?_
              refine lv_iadd hx hb dX12_reckons_152 ?_
              refine lz_top (y := (nI (pt + 1))) (nI_1 _) ?_
              refine lv_istore (lv' := [(4, .int (nI (pt + 1))), (3, .int (nI rs)), (2, .int (nI pt)), (1, .int (nI st)), (0, .ref h0)]) hx hb dX12_reckons_153 hl (by decide) rfl (fun ls hl => ?_)
              exact l3 (k - (pt + 1)) 0 P (upd G st (G rs)) (by omega) hPt2 ls H locs hP hD hS hl
          · exact absurd (nI_le (show k ≤ pt + 1 + q by omega) (by omega)) c4932
        | succ r2 ih2 =>
          intro q P G hq hPt hPs ls H locs hP hD hS hl
          have hrm : rmN rs (pt + 1 + q) ≤ rs := Nat.and_le_left
          have hru : runM k g st (q + 1) = if (rs.testBit (pt + 1 + q) && bitI (g pt) (pt + 1 + q)) = true then max (runM k g st q) (1 + nuS k g (rmN rs (pt + 1 + q))) else runM k g st q := by
            show (if _ then _ else _) = _
            rw [hpt, hrs0]
          rw [ebit _ (by omega), ← Nat.testBit_and] at hru
          cases hb9 : (rs &&& v).testBit (pt + 1 + q)
          · refine lv_iload hx hb dX12_reckons_45 (lv_at hl 0 rfl) ?_
            refine lv_aload_n hx hb dX12_reckons_47 rfl (lv_at hl 4 rfl) ?_
            refine va_get (D := D) (ci := 12) (v := .int (nI k)) (C := RX12) (T := TX12) (N := 24) hx hb hts hin12 hown hK hP 0 rfl rfl 0 (by decide) (hts (.fieldLink RX12 63 "MissedPointsModel" "many" "I") (by decide +kernel)) (fun _ h9 => h9) rfl dX12_reckons_48 ?_
            refine lv_icmp_ge (tgt := 119) hx hb dX12_reckons_51 (by decide) (fun c4934 => ?_) (fun c4934 => ?_)
            · exact absurd c4934 (nI_ge (show pt + 1 + q < k by omega) (by omega))
            · refine lv_iload_n hx hb dX12_reckons_54 rfl (lv_at hl 1 rfl) ?_
              refine lv_aload_n hx hb dX12_reckons_55 rfl (lv_at hl 4 rfl) ?_
              refine va_get (D := D) (ci := 12) (v := .ref h1) (C := RX12) (T := TX12) (N := 24) hx hb hts hin12 hown hK hP 0 rfl rfl 2 (by decide) (hts (.fieldLink RX12 13 "MissedPointsModel" "near" "[I") (by decide +kernel)) (fun _ h9 => h9) rfl dX12_reckons_56 ?_
              refine lv_iload_n hx hb dX12_reckons_59 rfl (lv_at hl 2 rfl) ?_
              refine lz_ald hx hb hK hP 1 0 rfl rfl pt ⟨by omega, Nat.le_of_ble_eq_true rfl⟩ dX12_reckons_60 ?_
              refine lz_top (y := (nI v)) (ev) ?_
              refine lv_iand hx hb dX12_reckons_61 ?_
              refine lz_top (y := (nI (rs &&& v))) (fa_and _ _) ?_
              refine lv_iload hx hb dX12_reckons_62 (lv_at hl 0 rfl) ?_
              have hPc := hP.sub (ws' := []) [] rfl
              refine lz_ss (As := [.int (nI (rs &&& v)), .int (nI (pt + 1 + q))]) (rest := []) ⟨hx, hb, hml, hown, hts⟩ (c_has0 l D cI cS (rs &&& v) (pt + 1 + q) (by have := Nat.and_le_left (n := rs) (m := v); omega) (by omega) hb9) hKK hPc (va_cwS 2 hts gX12_reckons_X12_has rfl rfl rfl (by decide +kernel) ⟨Nat.le_of_ble_eq_true rfl, Nat.le_of_ble_eq_true rfl⟩) rfl hl.1 rfl (Nat.le_of_ble_eq_true rfl) dX12_reckons_64 ⟨Nat.le_of_ble_eq_true rfl, Nat.le_of_ble_eq_true rfl⟩ (fun r9 hw => ?_)
              subst hw
              refine lv_if_eq (tgt := 113) hx hb dX12_reckons_67 (by decide) (fun c4935 => ?_) (fun c4935 => ?_)
              · refine lv_iinc (v := (nI (pt + 1 + (q + 1)))) (lv' := [(4, .int (nI (pt + 1 + (q + 1)))), (3, .int (nI rs)), (2, .int (nI pt)), (1, .int (nI st)), (0, .ref h0)]) hx hb dX12_reckons_113 hl (k := 0) rfl (nI_1 _) (by decide) rfl (fun ls hl => ?_)
                refine lv_goto (tgt := 45) hx hb dX12_reckons_116 (by decide) ?_
                exact ih2 (q + 1) P G (by omega) hPt (by rw [hPs, hru, hb9]; rfl) ls H locs hP hD hS hl
              · exact absurd c4935 (by decide)
          · refine lv_iload hx hb dX12_reckons_45 (lv_at hl 0 rfl) ?_
            refine lv_aload_n hx hb dX12_reckons_47 rfl (lv_at hl 4 rfl) ?_
            refine va_get (D := D) (ci := 12) (v := .int (nI k)) (C := RX12) (T := TX12) (N := 24) hx hb hts hin12 hown hK hP 0 rfl rfl 0 (by decide) (hts (.fieldLink RX12 63 "MissedPointsModel" "many" "I") (by decide +kernel)) (fun _ h9 => h9) rfl dX12_reckons_48 ?_
            refine lv_icmp_ge (tgt := 119) hx hb dX12_reckons_51 (by decide) (fun c4936 => ?_) (fun c4936 => ?_)
            · exact absurd c4936 (nI_ge (show pt + 1 + q < k by omega) (by omega))
            · refine lv_iload_n hx hb dX12_reckons_54 rfl (lv_at hl 1 rfl) ?_
              refine lv_aload_n hx hb dX12_reckons_55 rfl (lv_at hl 4 rfl) ?_
              refine va_get (D := D) (ci := 12) (v := .ref h1) (C := RX12) (T := TX12) (N := 24) hx hb hts hin12 hown hK hP 0 rfl rfl 2 (by decide) (hts (.fieldLink RX12 13 "MissedPointsModel" "near" "[I") (by decide +kernel)) (fun _ h9 => h9) rfl dX12_reckons_56 ?_
              refine lv_iload_n hx hb dX12_reckons_59 rfl (lv_at hl 2 rfl) ?_
              refine lz_ald hx hb hK hP 1 0 rfl rfl pt ⟨by omega, Nat.le_of_ble_eq_true rfl⟩ dX12_reckons_60 ?_
              refine lz_top (y := (nI v)) (ev) ?_
              refine lv_iand hx hb dX12_reckons_61 ?_
              refine lz_top (y := (nI (rs &&& v))) (fa_and _ _) ?_
              refine lv_iload hx hb dX12_reckons_62 (lv_at hl 0 rfl) ?_
              have hPc := hP.sub (ws' := []) [] rfl
              refine lz_ss (As := [.int (nI (rs &&& v)), .int (nI (pt + 1 + q))]) (rest := []) ⟨hx, hb, hml, hown, hts⟩ (c_has1 l D cI cS (rs &&& v) (pt + 1 + q) (by have := Nat.and_le_left (n := rs) (m := v); omega) (by omega) hb9) hKK hPc (va_cwS 2 hts gX12_reckons_X12_has rfl rfl rfl (by decide +kernel) ⟨Nat.le_of_ble_eq_true rfl, Nat.le_of_ble_eq_true rfl⟩) rfl hl.1 rfl (Nat.le_of_ble_eq_true rfl) dX12_reckons_64 ⟨Nat.le_of_ble_eq_true rfl, Nat.le_of_ble_eq_true rfl⟩ (fun r9 hw => ?_)
              subst hw
              refine lv_if_eq (tgt := 113) hx hb dX12_reckons_67 (by decide) (fun c4937 => ?_) (fun c4937 => ?_)
              · exact absurd c4937 (by decide)
              · refine lv_aload_n hx hb dX12_reckons_70 rfl (lv_at hl 4 rfl) ?_
                refine va_get (D := D) (ci := 12) (v := .ref h2) (C := RX12) (T := TX12) (N := 24) hx hb hts hin12 hown hK hP 0 rfl rfl 3 (by decide) (hts (.fieldLink RX12 17 "MissedPointsModel" "pairs" "[I") (by decide +kernel)) (fun _ h9 => h9) rfl dX12_reckons_71 ?_
                refine lv_iload_n hx hb dX12_reckons_74 rfl (lv_at hl 1 rfl) ?_
                refine lv_iconst (v := 1) hx hb dX12_reckons_75 (by decide) ?_
                refine lv_iload hx hb dX12_reckons_76 (lv_at hl 0 rfl) ?_
                refine lv_ishl hx hb dX12_reckons_78 ?_
                refine lv_iconst (v := (-1)) hx hb dX12_reckons_79 (by decide) ?_
                refine lv_ixor hx hb dX12_reckons_80 ?_
                refine lv_iand hx hb dX12_reckons_81 ?_
                refine lz_top (y := (nI (rmN rs (pt + 1 + q)))) (rmN_I (by omega) (by omega)) ?_
                refine lz_ald hx hb hK hP 2 0 rfl rfl (rmN rs (pt + 1 + q)) ⟨by omega, Nat.le_of_ble_eq_true rfl⟩ dX12_reckons_82 ?_
                refine lz_top (y := (nI (nuS k g (rmN rs (pt + 1 + q))))) (hPt _ (by omega)) ?_
                refine lv_aload_n hx hb dX12_reckons_83 rfl (lv_at hl 4 rfl) ?_
                refine va_get (D := D) (ci := 12) (v := .ref h2) (C := RX12) (T := TX12) (N := 24) hx hb hts hin12 hown hK hP 0 rfl rfl 3 (by decide) (hts (.fieldLink RX12 17 "MissedPointsModel" "pairs" "[I") (by decide +kernel)) (fun _ h9 => h9) rfl dX12_reckons_84 ?_
                refine lv_iload_n hx hb dX12_reckons_87 rfl (lv_at hl 3 rfl) ?_
                refine lz_ald hx hb hK hP 2 0 rfl rfl st ⟨by omega, Nat.le_of_ble_eq_true rfl⟩ dX12_reckons_88 ?_
                refine lz_top (y := (nI (runM k g st q))) (hPs) ?_
                refine lv_icmp_lt (tgt := 113) hx hb dX12_reckons_89 (by decide) (fun c4938 => ?_) (fun c4938 => ?_)
                · refine lv_iinc (v := (nI (pt + 1 + (q + 1)))) (lv' := [(4, .int (nI (pt + 1 + (q + 1)))), (3, .int (nI rs)), (2, .int (nI pt)), (1, .int (nI st)), (0, .ref h0)]) hx hb dX12_reckons_113 hl (k := 0) rfl (nI_1 _) (by decide) rfl (fun ls hl => ?_)
                  refine lv_goto (tgt := 45) hx hb dX12_reckons_116 (by decide) ?_
                  exact ih2 (q + 1) P G (by omega) hPt (by rw [hPs, hru, hb9, if_pos rfl, Nat.max_eq_left (by have z := (nI_ltI (by have := nu_two (adjK k g) k (tb (rmN rs (pt + 1 + q))); have := ncn_le (tb (rmN rs (pt + 1 + q))) k; unfold nuS; omega) (by have := runM_le hk hsy (show st < 2 ^ k by omega) (by omega) q; omega)).mp c4938; omega)]) ls H locs hP hD hS hl
                · refine lv_aload_n hx hb dX12_reckons_92 rfl (lv_at hl 4 rfl) ?_
                  refine va_get (D := D) (ci := 12) (v := .ref h2) (C := RX12) (T := TX12) (N := 24) hx hb hts hin12 hown hK hP 0 rfl rfl 3 (by decide) (hts (.fieldLink RX12 17 "MissedPointsModel" "pairs" "[I") (by decide +kernel)) (fun _ h9 => h9) rfl dX12_reckons_93 ?_
                  refine lv_iload_n hx hb dX12_reckons_96 rfl (lv_at hl 3 rfl) ?_
                  refine lv_aload_n hx hb dX12_reckons_97 rfl (lv_at hl 4 rfl) ?_
                  refine va_get (D := D) (ci := 12) (v := .ref h2) (C := RX12) (T := TX12) (N := 24) hx hb hts hin12 hown hK hP 0 rfl rfl 3 (by decide) (hts (.fieldLink RX12 17 "MissedPointsModel" "pairs" "[I") (by decide +kernel)) (fun _ h9 => h9) rfl dX12_reckons_98 ?_
                  refine lv_iload_n hx hb dX12_reckons_101 rfl (lv_at hl 1 rfl) ?_
                  refine lv_iconst (v := 1) hx hb dX12_reckons_102 (by decide) ?_
                  refine lv_iload hx hb dX12_reckons_103 (lv_at hl 0 rfl) ?_
                  refine lv_ishl hx hb dX12_reckons_105 ?_
                  refine lv_iconst (v := (-1)) hx hb dX12_reckons_106 (by decide) ?_
                  refine lv_ixor hx hb dX12_reckons_107 ?_
                  refine lv_iand hx hb dX12_reckons_108 ?_
                  refine lz_top (y := (nI (rmN rs (pt + 1 + q)))) (rmN_I (by omega) (by omega)) ?_
                  refine lz_ald hx hb hK hP 2 0 rfl rfl (rmN rs (pt + 1 + q)) ⟨by omega, Nat.le_of_ble_eq_true rfl⟩ dX12_reckons_109 ?_
                  refine lz_top (y := (nI (nuS k g (rmN rs (pt + 1 + q))))) (hPt _ (by omega)) ?_
                  refine lv_iconst (v := 1) hx hb dX12_reckons_110 (by decide) ?_
                  refine lv_iadd hx hb dX12_reckons_111 ?_
                  refine lz_top (y := (nI (nuS k g (rmN rs (pt + 1 + q)) + 1))) (nI_1 _) ?_
                  refine lz_ast hx hb hK hP hD hS 2 0 rfl rfl st ⟨by omega, Nat.le_of_ble_eq_true rfl⟩ dX12_reckons_112 (fun H locs hP hD hS => ?_)
                  have hP : va_P D cls [(h0, .inr (12, [.int (nI k), .int zv, .ref h1, .ref h2, .ref h3, .ref h4, .ref h5, .ref h6, .ref h7, .ref h8, .int w10, .int w11, .int w12, .int w13, .int w14, .int w15, .ref h9, .ref h10, .ref h11, .ref h12, .ref h13, .ref h14, .ref h15, .int w23])), (h1, .inl (cI, 12, .inl g)), (h2, .inl (cI, 4096, .inl (upd P st (nI (nuS k g (rmN rs (pt + 1 + q)) + 1))))), (h3, .inl (cI, 4096, .inl G))] H := hP
                  have hD : va_D A [(h0, .inr (12, [.int (nI k), .int zv, .ref h1, .ref h2, .ref h3, .ref h4, .ref h5, .ref h6, .ref h7, .ref h8, .int w10, .int w11, .int w12, .int w13, .int w14, .int w15, .ref h9, .ref h10, .ref h11, .ref h12, .ref h13, .ref h14, .ref h15, .int w23])), (h1, .inl (cI, 12, .inl g)), (h2, .inl (cI, 4096, .inl (upd P st (nI (nuS k g (rmN rs (pt + 1 + q)) + 1))))), (h3, .inl (cI, 4096, .inl G))] := hD
                  refine lv_iinc (v := (nI (pt + 1 + (q + 1)))) (lv' := [(4, .int (nI (pt + 1 + (q + 1)))), (3, .int (nI rs)), (2, .int (nI pt)), (1, .int (nI st)), (0, .ref h0)]) hx hb dX12_reckons_113 hl (k := 0) rfl (nI_1 _) (by decide) rfl (fun ls hl => ?_)
                  refine lv_goto (tgt := 45) hx hb dX12_reckons_116 (by decide) ?_
                  exact ih2 (q + 1) (upd P st (nI (nuS k g (rmN rs (pt + 1 + q)) + 1))) G (by omega) (fun t ht9 => by rw [pk_un (by omega)]; exact hPt t ht9) (by rw [hru, hb9, if_pos rfl, pk_us, Nat.max_eq_right (by have z : ¬ (nuS k g (rmN rs (pt + 1 + q)) < runM k g st q) := fun z9 => c4938 ((nI_ltI (by have := nu_two (adjK k g) k (tb (rmN rs (pt + 1 + q))); have := ncn_le (tb (rmN rs (pt + 1 + q))) k; unfold nuS; omega) (by have := runM_le hk hsy (show st < 2 ^ k by omega) (by omega) q; omega)).mpr z9); omega), Nat.add_comm]) ls H locs hP hD hS hl
      refine lv_iload_n hx hb dX12_reckons_9 rfl (lv_at hl 0 rfl) ?_
      refine lv_aload_n hx hb dX12_reckons_10 rfl (lv_at hl 1 rfl) ?_
      have hPc := hP.sub (ws' := [(h0, .inr (12, [.int (nI k), .int zv, .ref h1, .ref h2, .ref h3, .ref h4, .ref h5, .ref h6, .ref h7, .ref h8, .int w10, .int w11, .int w12, .int w13, .int w14, .int w15, .ref h9, .ref h10, .ref h11, .ref h12, .ref h13, .ref h14, .ref h15, .int w23]))]) [0] rfl
      refine lz_sv (As := []) (rest := [.int (nI st)]) ⟨hx, hb, hml, hown, hts⟩ (c_X12_all_3 l D cI cS h0 h1 h2 h3 h4 h5 h6 h7 h8 h9 h10 h11 h12 h13 h14 h15 (nI k) zv w10 w11 w12 w13 w14 w15 w23) hKK hPc (ci := 12) rfl rfl (cwV 0 hts gX12_reckons_X12_all rfl rfl rfl (by decide +kernel) ⟨Nat.le_of_ble_eq_true rfl, Nat.le_of_ble_eq_true rfl⟩) rfl hl.1 rfl (Nat.le_of_ble_eq_true rfl) dX12_reckons_11 ⟨Nat.le_of_ble_eq_true rfl, Nat.le_of_ble_eq_true rfl⟩ (fun r4939 hw => ?_)
      subst hw
      refine lz_top (y := (nI (2 ^ k - 1))) (all_eq k (by omega)) ?_
      refine lv_icmp_gt (tgt := 238) hx hb dX12_reckons_14 (by decide) (fun c4940 => ?_) (fun c4940 => ?_)
      · exact absurd c4940 (nI_nlt (show st ≤ 2 ^ k - 1 by omega) (by omega))
      · refine lv_iload_n hx hb dX12_reckons_17 rfl (lv_at hl 0 rfl) ?_
        have hPc := hP.sub (ws' := []) [] rfl
        refine lz_ss (As := [.int (nI st)]) (rest := []) ⟨hx, hb, hml, hown, hts⟩ (c_first l D cI cS st hst4 (by omega)) hKK hPc (va_cwS 1 hts gX12_reckons_X12_first rfl rfl rfl (by decide +kernel) ⟨Nat.le_of_ble_eq_true rfl, Nat.le_of_ble_eq_true rfl⟩) rfl hl.1 rfl (Nat.le_of_ble_eq_true rfl) dX12_reckons_18 ⟨Nat.le_of_ble_eq_true rfl, Nat.le_of_ble_eq_true rfl⟩ (fun r9 hw => ?_)
        subst hw
        refine lz_top (y := (nI pt)) (by rw [hpt]) ?_
        refine lv_istore_n (lv' := [(2, .int (nI pt)), (1, .int (nI st)), (0, .ref h0)]) hx hb dX12_reckons_21 rfl hl (by decide) rfl (fun ls hl => ?_)
        refine lv_iload_n hx hb dX12_reckons_22 rfl (lv_at hl 1 rfl) ?_
        refine lv_iload_n hx hb dX12_reckons_23 rfl (lv_at hl 1 rfl) ?_
        refine lv_iconst (v := 1) hx hb dX12_reckons_24 (by decide) ?_
        refine lv_isub hx hb dX12_reckons_25 ?_
        refine lz_top (y := (nI (st - 1))) ((show nI st - 1 = nI (st - 1) from by rw [show st = (st - 1) + 1 by omega]; exact nI_pred _)) ?_
        refine lv_iand hx hb dX12_reckons_26 ?_
        refine lz_top (y := (nI rs)) (by rw [fa_and, lo3]) ?_
        refine lv_istore_n (lv' := [(3, .int (nI rs)), (2, .int (nI pt)), (1, .int (nI st)), (0, .ref h0)]) hx hb dX12_reckons_27 rfl hl (by decide) rfl (fun ls hl => ?_)
        refine lv_aload_n hx hb dX12_reckons_28 rfl (lv_at hl 3 rfl) ?_
        refine va_get (D := D) (ci := 12) (v := .ref h2) (C := RX12) (T := TX12) (N := 24) hx hb hts hin12 hown hK hP 0 rfl rfl 3 (by decide) (hts (.fieldLink RX12 17 "MissedPointsModel" "pairs" "[I") (by decide +kernel)) (fun _ h9 => h9) rfl dX12_reckons_29 ?_
        refine lv_iload_n hx hb dX12_reckons_32 rfl (lv_at hl 2 rfl) ?_
        refine lv_aload_n hx hb dX12_reckons_33 rfl (lv_at hl 3 rfl) ?_
        refine va_get (D := D) (ci := 12) (v := .ref h2) (C := RX12) (T := TX12) (N := 24) hx hb hts hin12 hown hK hP 0 rfl rfl 3 (by decide) (hts (.fieldLink RX12 17 "MissedPointsModel" "pairs" "[I") (by decide +kernel)) (fun _ h9 => h9) rfl dX12_reckons_34 ?_
        refine lv_iload_n hx hb dX12_reckons_37 rfl (lv_at hl 0 rfl) ?_
        refine lz_ald hx hb hK hP 2 0 rfl rfl rs ⟨by omega, Nat.le_of_ble_eq_true rfl⟩ dX12_reckons_38 ?_
        refine lz_ast hx hb hK hP hD hS 2 0 rfl rfl st ⟨by omega, Nat.le_of_ble_eq_true rfl⟩ dX12_reckons_39 (fun H locs hP hD hS => ?_)
        have hP : va_P D cls [(h0, .inr (12, [.int (nI k), .int zv, .ref h1, .ref h2, .ref h3, .ref h4, .ref h5, .ref h6, .ref h7, .ref h8, .int w10, .int w11, .int w12, .int w13, .int w14, .int w15, .ref h9, .ref h10, .ref h11, .ref h12, .ref h13, .ref h14, .ref h15, .int w23])), (h1, .inl (cI, 12, .inl g)), (h2, .inl (cI, 4096, .inl (upd P st (P rs)))), (h3, .inl (cI, 4096, .inl G))] H := hP
        have hD : va_D A [(h0, .inr (12, [.int (nI k), .int zv, .ref h1, .ref h2, .ref h3, .ref h4, .ref h5, .ref h6, .ref h7, .ref h8, .int w10, .int w11, .int w12, .int w13, .int w14, .int w15, .ref h9, .ref h10, .ref h11, .ref h12, .ref h13, .ref h14, .ref h15, .int w23])), (h1, .inl (cI, 12, .inl g)), (h2, .inl (cI, 4096, .inl (upd P st (P rs)))), (h3, .inl (cI, 4096, .inl G))] := hD
        refine lv_iload_n hx hb dX12_reckons_40 rfl (lv_at hl 1 rfl) ?_
        refine lv_iconst (v := 1) hx hb dX12_reckons_41 (by decide) ?_
        refine lv_iadd hx hb dX12_reckons_42 ?_
        refine lz_top (y := (nI (pt + 1))) (nI_1 _) ?_
        refine lv_istore (lv' := [(4, .int (nI (pt + 1))), (3, .int (nI rs)), (2, .int (nI pt)), (1, .int (nI st)), (0, .ref h0)]) hx hb dX12_reckons_43 hl (by decide) rfl (fun ls hl => ?_)
        exact l2 (k - (pt + 1)) 0 (upd P st (P rs)) G (by omega) (fun t ht9 => by rw [pk_un (by omega)]; exact hPt t ht9) (by rw [pk_us, hPt rs hrs]; show _ = nI (nuS k g (rmN st (lo st))); rw [hpt, hrs0]) ls H locs hP hD hS hl
  refine lv_aload_n hx hb dX12_reckons_0 rfl (lv_at hl 0 rfl) ?_
  refine va_get (D := D) (ci := 12) (v := .ref h3) (C := RX12) (T := TX12) (N := 24) hx hb hts hin12 hown hK hP 0 rfl rfl 4 (by decide) (hts (.fieldLink RX12 20 "MissedPointsModel" "greatestWays" "[I") (by decide +kernel)) (fun _ h9 => h9) rfl dX12_reckons_1 ?_
  refine lv_iconst (v := 0) hx hb dX12_reckons_4 (by decide) ?_
  refine lv_iconst (v := 1) hx hb dX12_reckons_5 (by decide) ?_
  refine va_iast hx hb hK hP hD hS 3 0 rfl rfl (lz_vp (x := 0) (n := 4096) (by decide) (by decide)) dX12_reckons_6 (fun H locs hP hD hS => ?_)
  have hP : va_P D cls [(h0, .inr (12, [.int (nI k), .int zv, .ref h1, .ref h2, .ref h3, .ref h4, .ref h5, .ref h6, .ref h7, .ref h8, .int w10, .int w11, .int w12, .int w13, .int w14, .int w15, .ref h9, .ref h10, .ref h11, .ref h12, .ref h13, .ref h14, .ref h15, .int w23])), (h1, .inl (cI, 12, .inl g)), (h2, .inl (cI, 4096, .inl P0)), (h3, .inl (cI, 4096, .inl (upd G0 0 1)))] H := hP
  have hD : va_D A [(h0, .inr (12, [.int (nI k), .int zv, .ref h1, .ref h2, .ref h3, .ref h4, .ref h5, .ref h6, .ref h7, .ref h8, .int w10, .int w11, .int w12, .int w13, .int w14, .int w15, .ref h9, .ref h10, .ref h11, .ref h12, .ref h13, .ref h14, .ref h15, .int w23])), (h1, .inl (cI, 12, .inl g)), (h2, .inl (cI, 4096, .inl P0)), (h3, .inl (cI, 4096, .inl (upd G0 0 1)))] := hD
  refine lv_iconst (v := 1) hx hb dX12_reckons_7 (by decide) ?_
  refine lv_istore_n (lv' := [(1, .int 1), (0, .ref h0)]) hx hb dX12_reckons_8 rfl hl (by decide) rfl (fun ls hl => ?_)
  exact l1 (2 ^ k - 1) 1 P0 (upd G0 0 1) (by omega) (by omega) (fun t ht9 => by rw [show t = 0 by omega, hP0, nuS_small g (by decide)]; rfl) ls H locs hP hD hS hl
