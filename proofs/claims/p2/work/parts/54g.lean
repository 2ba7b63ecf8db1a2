set_option maxHeartbeats 4000000 in
set_option maxRecDepth 100000 in
theorem w_X12_reckons_W (l : Launch) (D : va_G) (cI cS : ClassId) (sz : Nat) (b : Nat → Nat) (L v0 : SU) (hL : TyL L) (hV : TyV v0) : Met l yX12_reckons wsX12_reckons ({ frames := 2, cells := 0, slots := 0, locals := 80 }) (PQ D cI cS (wM cI b L v0) sz [.ref (b 0)]) (QE (S := SU) D (wM cI b L v0) (wM cI b L) sz (fun u => TyV u ∧ (∀ s : Nat, (s : Int) ≤ (((1 : Int32) <<< (L 0 0 &&& 31)) - 1).toInt → Rg 1 479001600 (u 3 s)))) 0 0 (va_A (wM cI b L v0) sz) := by
  refine Met.ofW (cc := cX12_reckons) (maxL := 5) (ret := none) (by decide) rfl ?_
  intro p e s m args below meth c s₁ B hml hv
  obtain ⟨rfl, hsz, hP, hKK, hD0⟩ := hv
  have hx := B.exec
  have hb := B.bytes
  have hr := B.returns
  have hts := atoms_spec (ws := wsX12_reckons) B.pre
  have hown : s.vm.findClass RX12 = some m.cls := findClass_of_methodNamed B.named
  have hlocks := B.notSynchronized
  have hK := hKK.1
  have hin12 : ∀ w ∈ wsX120, w ∈ wsX12_reckons := by decide +kernel
  subst hsz
  have hD := hD0.self (sz := s.heap.size)
  obtain ⟨A, hAe⟩ : ∃ A, A = va_A (wM cI b L v0) s.heap.size := ⟨_, rfl⟩
  rw [← hAe] at hD
  have hA : ∀ q : Nat, s.heap.size ≤ q → A q := fun q h => by rw [hAe]; exact Or.inr h
  have hS : va_S A s.heap s.heap [] := va_S.rf
  have hl := lv_entry ([.ref (b 0)]) (n := 5) (Nat.le_of_ble_eq_true rfl)
  rw [lg_entry_eq]
  generalize (lg_sl ([.ref (b 0)]) ++ List.replicate (5 - (lg_sl ([.ref (b 0)])).length) Slot.unset).toArray = ls at hl ⊢
  have hl : lv_has ls 5 [(0, .ref (b 0))] := hl
  obtain ⟨v, hv9⟩ : ∃ v : SU, v = v0 := ⟨_, rfl⟩
  rw [← hv9] at hP hD hV
  have lp9 : ∀ (n9 : Nat) (y9_l1 : Int32) (v : SU) (H : Heap) (locs : List Loc) (ls : Array Slot), Rg 1 4096 y9_l1 → WI (v 3) y9_l1.toNatClampNeg → TyV v → va_P D cls (wM cI b L v) H → va_D A (wM cI b L v) → va_S A s.heap H locs → lv_has ls 5 [(0, .ref (b 0)), (1, .int y9_l1)] → 4096 - y9_l1.toInt < (n9 : Int) → W p l e (headSpec wsX12_reckons ({ frames := 2, cells := 0, slots := 0, locals := 80 })).room s m ([.ref (b 0)]).toArray below meth c H locs 0 0 (MQ below (QE (S := SU) D (wM cI b L v0) (wM cI b L) s.heap.size (fun u => TyV u ∧ (∀ s : Nat, (s : Int) ≤ (((1 : Int32) <<< (L 0 0 &&& 31)) - 1).toInt → Rg 1 479001600 (u 3 s)))) ([.ref (b 0)]).toArray s 0 0 (va_A (wM cI b L v0) s.heap.size)) (F0 m 9 ls []) := by
    intro n9
    induction n9 with
    | zero =>
      intro y9_l1 v H locs ls g9_l1 x9_0 hV hP hD hS hl hm9
      exact absurd rfl (me_z g9_l1 hm9)
    | succ n9 ih9 =>
      intro y9_l1 v H locs ls g9_l1 x9_0 hV hP hD hS hl hm9
      have lp155 : ∀ (n155 : Nat) (y155_l2 : Int32) (y155_l3 : Int32) (y155_l4 : Int32) (v : SU) (H : Heap) (locs : List Loc) (ls : Array Slot), Rg 1 4095 y9_l1 → Rg 0 11 y155_l2 → Rg 0 4095 y155_l3 → Rg 1 12 y155_l4 → X155 v y9_l1 y155_l2 y155_l3 y155_l4 (L 0 0) → TyV v → va_P D cls (wM cI b L v) H → va_D A (wM cI b L v) → va_S A s.heap H locs → lv_has ls 5 [(0, .ref (b 0)), (1, .int y9_l1), (2, .int y155_l2), (3, .int y155_l3), (4, .int y155_l4)] → 12 - y155_l4.toInt < (n155 : Int) → W p l e (headSpec wsX12_reckons ({ frames := 2, cells := 0, slots := 0, locals := 80 })).room s m ([.ref (b 0)]).toArray below meth c H locs 0 0 (MQ below (QE (S := SU) D (wM cI b L v0) (wM cI b L) s.heap.size (fun u => TyV u ∧ (∀ s : Nat, (s : Int) ≤ (((1 : Int32) <<< (L 0 0 &&& 31)) - 1).toInt → Rg 1 479001600 (u 3 s)))) ([.ref (b 0)]).toArray s 0 0 (va_A (wM cI b L v0) s.heap.size)) (F0 m 155 ls []) := by
        intro n155
        induction n155 with
        | zero =>
          intro y155_l2 y155_l3 y155_l4 v H locs ls g155_l1 g155_l2 g155_l3 g155_l4 x155_0 hV hP hD hS hl hm155
          exact absurd rfl (me_z g155_l4 hm155)
        | succ n155 ih155 =>
          intro y155_l2 y155_l3 y155_l4 v H locs ls g155_l1 g155_l2 g155_l3 g155_l4 x155_0 hV hP hD hS hl hm155
          refine lv_iload hx hb dX12_reckons_155 (lv_at hl 4 rfl) ?_
          refine lv_aload_n hx hb dX12_reckons_157 rfl (lv_at hl 0 rfl) ?_
          refine va_get (D := D) (ci := 12) (v := .int (L 0 0)) (C := RX12) (T := TX12) (N := 24) hx hb hts hin12 hown hK hP 0 rfl rfl 0 (by decide) (hts (.fieldLink RX12 63 "MissedPointsModel" "many" "I") (by decide +kernel)) (fun _ h9 => h9) rfl dX12_reckons_158 ?_
          refine lv_icmp_ge (tgt := 232) hx hb dX12_reckons_161 (by decide) (fun c28618 => ?_) (fun c28618 => ?_)
          · refine wk_iinc (lv' := fun r => [(1, .int r), (0, .ref (b 0)), (2, .int y155_l2), (3, .int y155_l3), (4, .int y155_l4)]) (e1 := 2) (f := 4096) hx hb dX12_reckons_232 hl (k := 1) rfl (by decide) g155_l1 (by decide) (fun _ => rfl) (fun r28619 ls hr28619 er28619 hl => ?_)
            refine lv_goto (tgt := 9) hx hb dX12_reckons_235 (by decide) ?_
            exact ih9 r28619 v _ _ ls (show Rg 1 4096 r28619 from rg_w hr28619 (by decide) (by decide)) (by exact rk_7 x155_0 ((lz_le _ _).mp c28618) (show Rg 0 12 y155_l4 from rg_w g155_l4 (by decide) (by decide)).2 er28619) hV hP hD hS (lv_sub (l' := [(0, .ref (b 0)), (1, .int r28619)]) hl [1, 0] rfl) (me_up hm9 er28619 (by decide))
          · have g28620 : Rg 2 12 (L 0 0) := rg_ltr g155_l4 hL.1 (rg_nle c28618) (by decide)
            have g28621 : Rg 1 11 y155_l4 := rg_ltl g155_l4 hL.1 (rg_nle c28618) (by decide)
            refine lv_iload_n hx hb dX12_reckons_164 rfl (lv_at hl 3 rfl) ?_
            refine lv_aload_n hx hb dX12_reckons_165 rfl (lv_at hl 0 rfl) ?_
            refine va_get (D := D) (ci := 12) (v := .ref (b 1)) (C := RX12) (T := TX12) (N := 24) hx hb hts hin12 hown hK hP 0 rfl rfl 2 (by decide) (hts (.fieldLink RX12 13 "MissedPointsModel" "near" "[I") (by decide +kernel)) (fun _ h9 => h9) rfl dX12_reckons_166 ?_
            refine lv_iload_n hx hb dX12_reckons_169 rfl (lv_at hl 2 rfl) ?_
            refine va_iald hx hb hK hP 1 0 rfl rfl (rg_in g155_l2 (by decide) (by decide)) dX12_reckons_170 ?_
            refine lz_top (y := (v 1 y155_l2.toNatClampNeg)) rfl ?_
            refine wk_iandl hx hb dX12_reckons_171 g155_l3 (by decide) (fun r28623 hr28623 qr28623 => ?_)
            refine lv_iload hx hb dX12_reckons_172 (lv_at hl 4 rfl) ?_
            refine lz_ss (As := [.int r28623, .int y155_l4]) (rest := []) ⟨hx, hb, hml, hown, hts⟩ (w_X12_has l D cI cS r28623 y155_l4) hKK (hP.sub (ws' := []) [] rfl) (va_cwS 2 hts gX12_reckons_X12_has rfl rfl rfl (by decide +kernel) ⟨Nat.le_of_ble_eq_true rfl, Nat.le_of_ble_eq_true rfl⟩) rfl hl.1 rfl (Nat.le_of_ble_eq_true rfl) dX12_reckons_174 ⟨Nat.le_of_ble_eq_true rfl, Nat.le_of_ble_eq_true rfl⟩ (fun r28624 hr28624 => ?_)
            refine lv_if_eq (tgt := 226) hx hb dX12_reckons_177 (by decide) (fun c28625 => ?_) (fun c28625 => ?_)
            · have g28626 : Rg 0 0 r28624 := wk_eql hr28624.1 (by decide : Rg 0 0 (0 : Int32)) c28625 (by decide)
              refine wk_iinc (lv' := fun r => [(4, .int r), (0, .ref (b 0)), (1, .int y9_l1), (2, .int y155_l2), (3, .int y155_l3)]) (e1 := 2) (f := 12) hx hb dX12_reckons_226 hl (k := 4) rfl (by decide) g28621 (by decide) (fun _ => rfl) (fun r28627 ls hr28627 er28627 hl => ?_)
              refine lv_goto (tgt := 155) hx hb dX12_reckons_229 (by decide) ?_
              exact ih155 y155_l2 y155_l3 r28627 v _ _ ls g155_l1 g155_l2 g155_l3 (show Rg 1 12 r28627 from rg_w hr28627 (by decide) (by decide)) (by exact rk_5 x155_0 er28627 (fun z => (hr28624.2.2 c28625) (by rw [qr28623]; exact z.1))) hV hP hD hS (lv_sub (l' := [(0, .ref (b 0)), (1, .int y9_l1), (2, .int y155_l2), (3, .int y155_l3), (4, .int r28627)]) hl [1, 2, 3, 4, 0] rfl) (me_up hm155 er28627 (by decide))
            · have g28628 : Rg 1 1 r28624 := rg_ne_lo (k := 0) hr28624.1 (by decide) c28625 (by decide)
              refine lv_aload_n hx hb dX12_reckons_180 rfl (lv_at hl 0 rfl) ?_
              refine va_get (D := D) (ci := 12) (v := .ref (b 2)) (C := RX12) (T := TX12) (N := 24) hx hb hts hin12 hown hK hP 0 rfl rfl 3 (by decide) (hts (.fieldLink RX12 17 "MissedPointsModel" "pairs" "[I") (by decide +kernel)) (fun _ h9 => h9) rfl dX12_reckons_181 ?_
              refine lv_iload_n hx hb dX12_reckons_184 rfl (lv_at hl 3 rfl) ?_
              refine lv_iconst (v := 1) hx hb dX12_reckons_185 (by decide) ?_
              refine lv_iload hx hb dX12_reckons_186 (lv_at hl 4 rfl) ?_
              refine wk_ishl1 (f := 2048) hx hb dX12_reckons_188 (show Rg 0 11 y155_l4 from rg_w g28621 (by decide) (by decide)) (by decide) (fun r28629 hr28629 qr28629 => ?_)
              refine lv_iconst (v := (-1)) hx hb dX12_reckons_189 (by decide) ?_
              refine lv_ixor hx hb dX12_reckons_190 ?_
              refine wk_topP (P := fun r => r = r28629 ^^^ ((-1) : Int32)) rfl (fun r28630 qr28630 => ?_)
              refine wk_iandl hx hb dX12_reckons_191 g155_l3 (by decide) (fun r28631 hr28631 qr28631 => ?_)
              refine va_iald hx hb hK hP 2 0 rfl rfl (rg_in hr28631 (by decide) (by decide)) dX12_reckons_192 ?_
              refine lz_top (y := (v 2 r28631.toNatClampNeg)) rfl ?_
              refine lv_iconst (v := 1) hx hb dX12_reckons_193 (by decide) ?_
              refine lv_iadd hx hb dX12_reckons_194 ?_
              refine wk_topP (P := fun r => r = (v 2 r28631.toNatClampNeg) + (1 : Int32)) rfl (fun r28633 qr28633 => ?_)
              refine lv_aload_n hx hb dX12_reckons_195 rfl (lv_at hl 0 rfl) ?_
              refine va_get (D := D) (ci := 12) (v := .ref (b 2)) (C := RX12) (T := TX12) (N := 24) hx hb hts hin12 hown hK hP 0 rfl rfl 3 (by decide) (hts (.fieldLink RX12 17 "MissedPointsModel" "pairs" "[I") (by decide +kernel)) (fun _ h9 => h9) rfl dX12_reckons_196 ?_
              refine lv_iload_n hx hb dX12_reckons_199 rfl (lv_at hl 1 rfl) ?_
              refine va_iald hx hb hK hP 2 0 rfl rfl (rg_in g155_l1 (by decide) (by decide)) dX12_reckons_200 ?_
              refine lz_top (y := (v 2 y9_l1.toNatClampNeg)) rfl ?_
              refine lv_icmp_ne (tgt := 226) hx hb dX12_reckons_201 (by decide) (fun c28635 => ?_) (fun c28635 => ?_)
              · refine wk_iinc (lv' := fun r => [(4, .int r), (0, .ref (b 0)), (1, .int y9_l1), (2, .int y155_l2), (3, .int y155_l3)]) (e1 := 2) (f := 12) hx hb dX12_reckons_226 hl (k := 4) rfl (by decide) g28621 (by decide) (fun _ => rfl) (fun r28636 ls hr28636 er28636 hl => ?_)
                refine lv_goto (tgt := 155) hx hb dX12_reckons_229 (by decide) ?_
                exact ih155 y155_l2 y155_l3 r28636 v _ _ ls g155_l1 g155_l2 g155_l3 (show Rg 1 12 r28636 from rg_w hr28636 (by decide) (by decide)) (by exact rk_5 x155_0 er28636 (fun z => c28635 (by rw [qr28633, (show r28631 = rmI y155_l3 y155_l4 from by rw [qr28631, qr28630, qr28629]; first | done | rfl)]; exact z.2))) hV hP hD hS (lv_sub (l' := [(0, .ref (b 0)), (1, .int y9_l1), (2, .int y155_l2), (3, .int y155_l3), (4, .int r28636)]) hl [1, 2, 3, 4, 0] rfl) (me_up hm155 er28636 (by decide))
              · refine lv_aload_n hx hb dX12_reckons_204 rfl (lv_at hl 0 rfl) ?_
                refine va_get (D := D) (ci := 12) (v := .ref (b 3)) (C := RX12) (T := TX12) (N := 24) hx hb hts hin12 hown hK hP 0 rfl rfl 4 (by decide) (hts (.fieldLink RX12 20 "MissedPointsModel" "greatestWays" "[I") (by decide +kernel)) (fun _ h9 => h9) rfl dX12_reckons_205 ?_
                refine lv_iload_n hx hb dX12_reckons_208 rfl (lv_at hl 1 rfl) ?_
                refine lv_dup2_11 hx hb dX12_reckons_209 rfl rfl ?_
                refine va_iald hx hb hK hP 3 0 rfl rfl (rg_in g155_l1 (by decide) (by decide)) dX12_reckons_210 ?_
                refine lz_top (y := (v 3 y9_l1.toNatClampNeg)) rfl ?_
                refine lv_aload_n hx hb dX12_reckons_211 rfl (lv_at hl 0 rfl) ?_
                refine va_get (D := D) (ci := 12) (v := .ref (b 3)) (C := RX12) (T := TX12) (N := 24) hx hb hts hin12 hown hK hP 0 rfl rfl 4 (by decide) (hts (.fieldLink RX12 20 "MissedPointsModel" "greatestWays" "[I") (by decide +kernel)) (fun _ h9 => h9) rfl dX12_reckons_212 ?_
                refine lv_iload_n hx hb dX12_reckons_215 rfl (lv_at hl 3 rfl) ?_
                refine lv_iconst (v := 1) hx hb dX12_reckons_216 (by decide) ?_
                refine lv_iload hx hb dX12_reckons_217 (lv_at hl 4 rfl) ?_
                refine wk_ishl1 (f := 2048) hx hb dX12_reckons_219 (show Rg 0 11 y155_l4 from rg_w g28621 (by decide) (by decide)) (by decide) (fun r28638 hr28638 qr28638 => ?_)
                refine lv_iconst (v := (-1)) hx hb dX12_reckons_220 (by decide) ?_
                refine lv_ixor hx hb dX12_reckons_221 ?_
                refine wk_topP (P := fun r => r = r28638 ^^^ ((-1) : Int32)) rfl (fun r28639 qr28639 => ?_)
                refine wk_iandl hx hb dX12_reckons_222 g155_l3 (by decide) (fun r28640 hr28640 qr28640 => ?_)
                refine va_iald hx hb hK hP 3 0 rfl rfl (rg_in hr28640 (by decide) (by decide)) dX12_reckons_223 ?_
                refine lz_top (y := (v 3 r28640.toNatClampNeg)) rfl ?_
                refine lv_iadd hx hb dX12_reckons_224 ?_
                refine wk_topP (P := fun r => r = (v 3 y9_l1.toNatClampNeg) + (v 3 r28640.toNatClampNeg)) rfl (fun r28642 qr28642 => ?_)
                refine ms_3 hx hb hK hP hD hS hV rfl (rg_in g155_l1 (by decide) (by decide)) dX12_reckons_225 (fun v H locs hV ev28643 hP hD hS => ?_)
                refine wk_iinc (lv' := fun r => [(4, .int r), (0, .ref (b 0)), (1, .int y9_l1), (2, .int y155_l2), (3, .int y155_l3)]) (e1 := 2) (f := 12) hx hb dX12_reckons_226 hl (k := 4) rfl (by decide) g28621 (by decide) (fun _ => rfl) (fun r28644 ls hr28644 er28644 hl => ?_)
                refine lv_goto (tgt := 155) hx hb dX12_reckons_229 (by decide) ?_
                exact ih155 y155_l2 y155_l3 r28644 v _ _ ls g155_l1 g155_l2 g155_l3 (show Rg 1 12 r28644 from rg_w hr28644 (by decide) (by decide)) (by exact rk_6 x155_0 er28644 (show Rg 0 11 y155_l4 from rg_w g28621 (by decide) (by decide)) (by rw [qr28642, (show r28640 = rmI y155_l3 y155_l4 from by rw [qr28640, qr28639, qr28638]; first | done | rfl)]) ev28643) hV hP hD hS (lv_sub (l' := [(0, .ref (b 0)), (1, .int y9_l1), (2, .int y155_l2), (3, .int y155_l3), (4, .int r28644)]) hl [1, 2, 3, 4, 0] rfl) (me_up hm155 er28644 (by decide))
      have lp45 : ∀ (n45 : Nat) (y45_l2 : Int32) (y45_l3 : Int32) (y45_l4 : Int32) (v : SU) (H : Heap) (locs : List Loc) (ls : Array Slot), Rg 1 4095 y9_l1 → Rg 0 11 y45_l2 → Rg 0 4095 y45_l3 → Rg 1 12 y45_l4 → X45 v y9_l1 y45_l2 y45_l3 y45_l4 (L 0 0) → TyV v → va_P D cls (wM cI b L v) H → va_D A (wM cI b L v) → va_S A s.heap H locs → lv_has ls 5 [(0, .ref (b 0)), (1, .int y9_l1), (2, .int y45_l2), (3, .int y45_l3), (4, .int y45_l4)] → 12 - y45_l4.toInt < (n45 : Int) → W p l e (headSpec wsX12_reckons ({ frames := 2, cells := 0, slots := 0, locals := 80 })).room s m ([.ref (b 0)]).toArray below meth c H locs 0 0 (MQ below (QE (S := SU) D (wM cI b L v0) (wM cI b L) s.heap.size (fun u => TyV u ∧ (∀ s : Nat, (s : Int) ≤ (((1 : Int32) <<< (L 0 0 &&& 31)) - 1).toInt → Rg 1 479001600 (u 3 s)))) ([.ref (b 0)]).toArray s 0 0 (va_A (wM cI b L v0) s.heap.size)) (F0 m 45 ls []) := by
        intro n45
        induction n45 with
        | zero =>
          intro y45_l2 y45_l3 y45_l4 v H locs ls g45_l1 g45_l2 g45_l3 g45_l4 x45_0 hV hP hD hS hl hm45
          exact absurd rfl (me_z g45_l4 hm45)
        | succ n45 ih45 =>
          intro y45_l2 y45_l3 y45_l4 v H locs ls g45_l1 g45_l2 g45_l3 g45_l4 x45_0 hV hP hD hS hl hm45
          refine lv_iload hx hb dX12_reckons_45 (lv_at hl 4 rfl) ?_
          refine lv_aload_n hx hb dX12_reckons_47 rfl (lv_at hl 0 rfl) ?_
          refine va_get (D := D) (ci := 12) (v := .int (L 0 0)) (C := RX12) (T := TX12) (N := 24) hx hb hts hin12 hown hK hP 0 rfl rfl 0 (by decide) (hts (.fieldLink RX12 63 "MissedPointsModel" "many" "I") (by decide +kernel)) (fun _ h9 => h9) rfl dX12_reckons_48 ?_
          refine lv_icmp_ge (tgt := 119) hx hb dX12_reckons_51 (by decide) (fun c28645 => ?_) (fun c28645 => ?_)
          · refine lv_aload_n hx hb dX12_reckons_119 rfl (lv_at hl 0 rfl) ?_
            refine va_get (D := D) (ci := 12) (v := .ref (b 3)) (C := RX12) (T := TX12) (N := 24) hx hb hts hin12 hown hK hP 0 rfl rfl 4 (by decide) (hts (.fieldLink RX12 20 "MissedPointsModel" "greatestWays" "[I") (by decide +kernel)) (fun _ h9 => h9) rfl dX12_reckons_120 ?_
            refine lv_iload_n hx hb dX12_reckons_123 rfl (lv_at hl 1 rfl) ?_
            refine lv_aload_n hx hb dX12_reckons_124 rfl (lv_at hl 0 rfl) ?_
            refine va_get (D := D) (ci := 12) (v := .ref (b 2)) (C := RX12) (T := TX12) (N := 24) hx hb hts hin12 hown hK hP 0 rfl rfl 3 (by decide) (hts (.fieldLink RX12 17 "MissedPointsModel" "pairs" "[I") (by decide +kernel)) (fun _ h9 => h9) rfl dX12_reckons_125 ?_
            refine lv_iload_n hx hb dX12_reckons_128 rfl (lv_at hl 3 rfl) ?_
            refine va_iald hx hb hK hP 2 0 rfl rfl (rg_in g45_l3 (by decide) (by decide)) dX12_reckons_129 ?_
            refine lz_top (y := (v 2 y45_l3.toNatClampNeg)) rfl ?_
            refine lv_aload_n hx hb dX12_reckons_130 rfl (lv_at hl 0 rfl) ?_
            refine va_get (D := D) (ci := 12) (v := .ref (b 2)) (C := RX12) (T := TX12) (N := 24) hx hb hts hin12 hown hK hP 0 rfl rfl 3 (by decide) (hts (.fieldLink RX12 17 "MissedPointsModel" "pairs" "[I") (by decide +kernel)) (fun _ h9 => h9) rfl dX12_reckons_131 ?_
            refine lv_iload_n hx hb dX12_reckons_134 rfl (lv_at hl 1 rfl) ?_
            refine va_iald hx hb hK hP 2 0 rfl rfl (rg_in g45_l1 (by decide) (by decide)) dX12_reckons_135 ?_
            refine lz_top (y := (v 2 y9_l1.toNatClampNeg)) rfl ?_
            refine lv_icmp_ne (tgt := 148) hx hb dX12_reckons_136 (by decide) (fun c28648 => ?_) (fun c28648 => ?_)
            · refine lv_iconst (v := 0) hx hb dX12_reckons_148 (by decide) ?_
              refine ms_3 hx hb hK hP hD hS hV rfl (rg_in g45_l1 (by decide) (by decide)) dX12_reckons_149 (fun v H locs hV ev28649 hP hD hS => ?_)
              refine lv_iload_n hx hb dX12_reckons_150 rfl (lv_at hl 2 rfl) ?_
              refine lv_iconst (v := 1) hx hb dX12_reckons_151 (by decide) ?_
              refine wk_iadd (e1 := 1) (f := 12) hx hb dX12_reckons_152 g45_l2 (by decide : Rg 1 1 (1 : Int32)) (by decide) (fun r28650 hr28650 er28650 qr28650 => ?_)
              refine lv_istore (lv' := [(4, .int r28650), (0, .ref (b 0)), (1, .int y9_l1), (2, .int y45_l2), (3, .int y45_l3)]) hx hb dX12_reckons_153 hl (by decide) rfl (fun ls hl => ?_)
              exact lp155 12 y45_l2 y45_l3 r28650 v _ _ ls g45_l1 g45_l2 g45_l3 hr28650 (by exact rk_4 x45_0 er28650 (Or.inr ⟨c28648, rfl⟩) ev28649) hV hP hD hS (lv_sub (l' := [(0, .ref (b 0)), (1, .int y9_l1), (2, .int y45_l2), (3, .int y45_l3), (4, .int r28650)]) hl [1, 2, 3, 4, 0] rfl) (me_i hr28650 (by decide))
            · refine lv_aload_n hx hb dX12_reckons_139 rfl (lv_at hl 0 rfl) ?_
              refine va_get (D := D) (ci := 12) (v := .ref (b 3)) (C := RX12) (T := TX12) (N := 24) hx hb hts hin12 hown hK hP 0 rfl rfl 4 (by decide) (hts (.fieldLink RX12 20 "MissedPointsModel" "greatestWays" "[I") (by decide +kernel)) (fun _ h9 => h9) rfl dX12_reckons_140 ?_
              refine lv_iload_n hx hb dX12_reckons_143 rfl (lv_at hl 3 rfl) ?_
              refine va_iald hx hb hK hP 3 0 rfl rfl (rg_in g45_l3 (by decide) (by decide)) dX12_reckons_144 ?_
              refine lz_top (y := (v 3 y45_l3.toNatClampNeg)) rfl ?_
              refine lv_goto (tgt := 149) hx hb dX12_reckons_145 (by decide) ?_
              refine ms_3 hx hb hK hP hD hS hV rfl (rg_in g45_l1 (by decide) (by decide)) dX12_reckons_149 (fun v H locs hV ev28652 hP hD hS => ?_)
              refine lv_iload_n hx hb dX12_reckons_150 rfl (lv_at hl 2 rfl) ?_
              refine lv_iconst (v := 1) hx hb dX12_reckons_151 (by decide) ?_
              refine wk_iadd (e1 := 1) (f := 12) hx hb dX12_reckons_152 g45_l2 (by decide : Rg 1 1 (1 : Int32)) (by decide) (fun r28653 hr28653 er28653 qr28653 => ?_)
              refine lv_istore (lv' := [(4, .int r28653), (0, .ref (b 0)), (1, .int y9_l1), (2, .int y45_l2), (3, .int y45_l3)]) hx hb dX12_reckons_153 hl (by decide) rfl (fun ls hl => ?_)
              exact lp155 12 y45_l2 y45_l3 r28653 v _ _ ls g45_l1 g45_l2 g45_l3 hr28653 (by exact rk_4 x45_0 er28653 (Or.inl ⟨c28648, rfl⟩) ev28652) hV hP hD hS (lv_sub (l' := [(0, .ref (b 0)), (1, .int y9_l1), (2, .int y45_l2), (3, .int y45_l3), (4, .int r28653)]) hl [1, 2, 3, 4, 0] rfl) (me_i hr28653 (by decide))
          · have g28654 : Rg 2 12 (L 0 0) := rg_ltr g45_l4 hL.1 (rg_nle c28645) (by decide)
            have g28655 : Rg 1 11 y45_l4 := rg_ltl g45_l4 hL.1 (rg_nle c28645) (by decide)
            refine lv_iload_n hx hb dX12_reckons_54 rfl (lv_at hl 3 rfl) ?_
            refine lv_aload_n hx hb dX12_reckons_55 rfl (lv_at hl 0 rfl) ?_
            refine va_get (D := D) (ci := 12) (v := .ref (b 1)) (C := RX12) (T := TX12) (N := 24) hx hb hts hin12 hown hK hP 0 rfl rfl 2 (by decide) (hts (.fieldLink RX12 13 "MissedPointsModel" "near" "[I") (by decide +kernel)) (fun _ h9 => h9) rfl dX12_reckons_56 ?_
            refine lv_iload_n hx hb dX12_reckons_59 rfl (lv_at hl 2 rfl) ?_
            refine va_iald hx hb hK hP 1 0 rfl rfl (rg_in g45_l2 (by decide) (by decide)) dX12_reckons_60 ?_
            refine lz_top (y := (v 1 y45_l2.toNatClampNeg)) rfl ?_
            refine wk_iandl hx hb dX12_reckons_61 g45_l3 (by decide) (fun r28657 hr28657 qr28657 => ?_)
            refine lv_iload hx hb dX12_reckons_62 (lv_at hl 4 rfl) ?_
            refine lz_ss (As := [.int r28657, .int y45_l4]) (rest := []) ⟨hx, hb, hml, hown, hts⟩ (w_X12_has l D cI cS r28657 y45_l4) hKK (hP.sub (ws' := []) [] rfl) (va_cwS 2 hts gX12_reckons_X12_has rfl rfl rfl (by decide +kernel) ⟨Nat.le_of_ble_eq_true rfl, Nat.le_of_ble_eq_true rfl⟩) rfl hl.1 rfl (Nat.le_of_ble_eq_true rfl) dX12_reckons_64 ⟨Nat.le_of_ble_eq_true rfl, Nat.le_of_ble_eq_true rfl⟩ (fun r28658 hr28658 => ?_)
            refine lv_if_eq (tgt := 113) hx hb dX12_reckons_67 (by decide) (fun c28659 => ?_) (fun c28659 => ?_)
            · have g28660 : Rg 0 0 r28658 := wk_eql hr28658.1 (by decide : Rg 0 0 (0 : Int32)) c28659 (by decide)
              refine wk_iinc (lv' := fun r => [(4, .int r), (0, .ref (b 0)), (1, .int y9_l1), (2, .int y45_l2), (3, .int y45_l3)]) (e1 := 2) (f := 12) hx hb dX12_reckons_113 hl (k := 4) rfl (by decide) g28655 (by decide) (fun _ => rfl) (fun r28661 ls hr28661 er28661 hl => ?_)
              refine lv_goto (tgt := 45) hx hb dX12_reckons_116 (by decide) ?_
              exact ih45 y45_l2 y45_l3 r28661 v _ _ ls g45_l1 g45_l2 g45_l3 (show Rg 1 12 r28661 from rg_w hr28661 (by decide) (by decide)) (by exact rk_2 x45_0 er28661) hV hP hD hS (lv_sub (l' := [(0, .ref (b 0)), (1, .int y9_l1), (2, .int y45_l2), (3, .int y45_l3), (4, .int r28661)]) hl [1, 2, 3, 4, 0] rfl) (me_up hm45 er28661 (by decide))
            · have g28662 : Rg 1 1 r28658 := rg_ne_lo (k := 0) hr28658.1 (by decide) c28659 (by decide)
              refine lv_aload_n hx hb dX12_reckons_70 rfl (lv_at hl 0 rfl) ?_
              refine va_get (D := D) (ci := 12) (v := .ref (b 2)) (C := RX12) (T := TX12) (N := 24) hx hb hts hin12 hown hK hP 0 rfl rfl 3 (by decide) (hts (.fieldLink RX12 17 "MissedPointsModel" "pairs" "[I") (by decide +kernel)) (fun _ h9 => h9) rfl dX12_reckons_71 ?_
              refine lv_iload_n hx hb dX12_reckons_74 rfl (lv_at hl 3 rfl) ?_
              refine lv_iconst (v := 1) hx hb dX12_reckons_75 (by decide) ?_
              refine lv_iload hx hb dX12_reckons_76 (lv_at hl 4 rfl) ?_
              refine wk_ishl1 (f := 2048) hx hb dX12_reckons_78 (show Rg 0 11 y45_l4 from rg_w g28655 (by decide) (by decide)) (by decide) (fun r28663 hr28663 qr28663 => ?_)
              refine lv_iconst (v := (-1)) hx hb dX12_reckons_79 (by decide) ?_
              refine lv_ixor hx hb dX12_reckons_80 ?_
              refine wk_topP (P := fun r => r = r28663 ^^^ ((-1) : Int32)) rfl (fun r28664 qr28664 => ?_)
              refine wk_iandl hx hb dX12_reckons_81 g45_l3 (by decide) (fun r28665 hr28665 qr28665 => ?_)
              refine va_iald hx hb hK hP 2 0 rfl rfl (rg_in hr28665 (by decide) (by decide)) dX12_reckons_82 ?_
              refine lz_top (y := (v 2 r28665.toNatClampNeg)) rfl ?_
              refine lv_aload_n hx hb dX12_reckons_83 rfl (lv_at hl 0 rfl) ?_
              refine va_get (D := D) (ci := 12) (v := .ref (b 2)) (C := RX12) (T := TX12) (N := 24) hx hb hts hin12 hown hK hP 0 rfl rfl 3 (by decide) (hts (.fieldLink RX12 17 "MissedPointsModel" "pairs" "[I") (by decide +kernel)) (fun _ h9 => h9) rfl dX12_reckons_84 ?_
              refine lv_iload_n hx hb dX12_reckons_87 rfl (lv_at hl 1 rfl) ?_
              refine va_iald hx hb hK hP 2 0 rfl rfl (rg_in g45_l1 (by decide) (by decide)) dX12_reckons_88 ?_
              refine lz_top (y := (v 2 y9_l1.toNatClampNeg)) rfl ?_
              refine lv_icmp_lt (tgt := 113) hx hb dX12_reckons_89 (by decide) (fun c28668 => ?_) (fun c28668 => ?_)
              · refine wk_iinc (lv' := fun r => [(4, .int r), (0, .ref (b 0)), (1, .int y9_l1), (2, .int y45_l2), (3, .int y45_l3)]) (e1 := 2) (f := 12) hx hb dX12_reckons_113 hl (k := 4) rfl (by decide) g28655 (by decide) (fun _ => rfl) (fun r28669 ls hr28669 er28669 hl => ?_)
                refine lv_goto (tgt := 45) hx hb dX12_reckons_116 (by decide) ?_
                exact ih45 y45_l2 y45_l3 r28669 v _ _ ls g45_l1 g45_l2 g45_l3 (show Rg 1 12 r28669 from rg_w hr28669 (by decide) (by decide)) (by exact rk_2 x45_0 er28669) hV hP hD hS (lv_sub (l' := [(0, .ref (b 0)), (1, .int y9_l1), (2, .int y45_l2), (3, .int y45_l3), (4, .int r28669)]) hl [1, 2, 3, 4, 0] rfl) (me_up hm45 er28669 (by decide))
              · refine lv_aload_n hx hb dX12_reckons_92 rfl (lv_at hl 0 rfl) ?_
                refine va_get (D := D) (ci := 12) (v := .ref (b 2)) (C := RX12) (T := TX12) (N := 24) hx hb hts hin12 hown hK hP 0 rfl rfl 3 (by decide) (hts (.fieldLink RX12 17 "MissedPointsModel" "pairs" "[I") (by decide +kernel)) (fun _ h9 => h9) rfl dX12_reckons_93 ?_
                refine lv_iload_n hx hb dX12_reckons_96 rfl (lv_at hl 1 rfl) ?_
                refine lv_aload_n hx hb dX12_reckons_97 rfl (lv_at hl 0 rfl) ?_
                refine va_get (D := D) (ci := 12) (v := .ref (b 2)) (C := RX12) (T := TX12) (N := 24) hx hb hts hin12 hown hK hP 0 rfl rfl 3 (by decide) (hts (.fieldLink RX12 17 "MissedPointsModel" "pairs" "[I") (by decide +kernel)) (fun _ h9 => h9) rfl dX12_reckons_98 ?_
                refine lv_iload_n hx hb dX12_reckons_101 rfl (lv_at hl 3 rfl) ?_
                refine lv_iconst (v := 1) hx hb dX12_reckons_102 (by decide) ?_
                refine lv_iload hx hb dX12_reckons_103 (lv_at hl 4 rfl) ?_
                refine wk_ishl1 (f := 2048) hx hb dX12_reckons_105 (show Rg 0 11 y45_l4 from rg_w g28655 (by decide) (by decide)) (by decide) (fun r28670 hr28670 qr28670 => ?_)
                refine lv_iconst (v := (-1)) hx hb dX12_reckons_106 (by decide) ?_
                refine lv_ixor hx hb dX12_reckons_107 ?_
                refine wk_topP (P := fun r => r = r28670 ^^^ ((-1) : Int32)) rfl (fun r28671 qr28671 => ?_)
                refine wk_iandl hx hb dX12_reckons_108 g45_l3 (by decide) (fun r28672 hr28672 qr28672 => ?_)
                refine va_iald hx hb hK hP 2 0 rfl rfl (rg_in hr28672 (by decide) (by decide)) dX12_reckons_109 ?_
                refine lz_top (y := (v 2 r28672.toNatClampNeg)) rfl ?_
                refine lv_iconst (v := 1) hx hb dX12_reckons_110 (by decide) ?_
                refine lv_iadd hx hb dX12_reckons_111 ?_
                refine wk_topP (P := fun r => r = (v 2 r28672.toNatClampNeg) + (1 : Int32)) rfl (fun r28674 qr28674 => ?_)
                refine ms_2 hx hb hK hP hD hS hV rfl (rg_in g45_l1 (by decide) (by decide)) (wk_nz g45_l1 (by decide)) dX12_reckons_112 (fun v H locs hV ev28675 hP hD hS => ?_)
                refine wk_iinc (lv' := fun r => [(4, .int r), (0, .ref (b 0)), (1, .int y9_l1), (2, .int y45_l2), (3, .int y45_l3)]) (e1 := 2) (f := 12) hx hb dX12_reckons_113 hl (k := 4) rfl (by decide) g28655 (by decide) (fun _ => rfl) (fun r28676 ls hr28676 er28676 hl => ?_)
                refine lv_goto (tgt := 45) hx hb dX12_reckons_116 (by decide) ?_
                exact ih45 y45_l2 y45_l3 r28676 v _ _ ls g45_l1 g45_l2 g45_l3 (show Rg 1 12 r28676 from rg_w hr28676 (by decide) (by decide)) (by exact rk_3 x45_0 er28676 (show Rg 0 11 y45_l4 from rg_w g28655 (by decide) (by decide)) ((lz_lt _ _).mp (rg_nle c28645)) (by rw [← qr28657]; exact hr28658.2.1 c28659) (by rw [qr28674, (show r28672 = rmI y45_l3 y45_l4 from by rw [qr28672, qr28671, qr28670]; first | done | rfl)]) ev28675) hV hP hD hS (lv_sub (l' := [(0, .ref (b 0)), (1, .int y9_l1), (2, .int y45_l2), (3, .int y45_l3), (4, .int r28676)]) hl [1, 2, 3, 4, 0] rfl) (me_up hm45 er28676 (by decide))
      refine lv_iload_n hx hb dX12_reckons_9 rfl (lv_at hl 1 rfl) ?_
      refine lv_aload_n hx hb dX12_reckons_10 rfl (lv_at hl 0 rfl) ?_
      refine wk_sv 0 (As := []) (rest := [.int y9_l1]) ⟨hx, hb, hml, hown, hts⟩ (w_X12_all l D cI cS b L v hL hV) hKK hP (ci := 12) rfl rfl (cwV 0 hts gX12_reckons_X12_all rfl rfl rfl (by decide +kernel) ⟨Nat.le_of_ble_eq_true rfl, Nat.le_of_ble_eq_true rfl⟩) rfl hl.1 rfl (Nat.le_of_ble_eq_true rfl) dX12_reckons_11 ⟨Nat.le_of_ble_eq_true rfl, Nat.le_of_ble_eq_true rfl⟩ (fun r28677 hr28677 => ?_)
      refine lv_icmp_gt (tgt := 238) hx hb dX12_reckons_14 (by decide) (fun c28678 => ?_) (fun c28678 => ?_)
      · subst hAe
        exact W.vret hx hb hr (fun t ht hW => ⟨⟨v, rfl, ⟨hV, (fun s9 hs9 => by have z1 := (lz_lt _ _).mp c28678; have z2 : y9_l1.toNatClampNeg = y9_l1.toInt.toNat := rfl; rw [← hr28677.2] at hs9; have z3 := x9_0 s9 (by omega); have z4 := g9_l1; have z5 := bdN_top (x := s9) (by omega); exact ⟨z3.1, by omega⟩)⟩, by rw [ht]; exact hP, hD⟩, hS.F ht⟩) hS.2.2 dX12_reckons_238
      · have g28679 : Rg 1 4095 r28677 := rg_ler g9_l1 hr28677.1 (rg_nlt c28678) (by decide)
        have g28680 : Rg 1 4095 y9_l1 := rg_lel g9_l1 hr28677.1 (rg_nlt c28678) (by decide)
        refine lv_iload_n hx hb dX12_reckons_17 rfl (lv_at hl 1 rfl) ?_
        refine lz_ss (As := [.int y9_l1]) (rest := []) ⟨hx, hb, hml, hown, hts⟩ (w_X12_first l D cI cS y9_l1 g28680) hKK (hP.sub (ws' := []) [] rfl) (va_cwS 1 hts gX12_reckons_X12_first rfl rfl rfl (by decide +kernel) ⟨Nat.le_of_ble_eq_true rfl, Nat.le_of_ble_eq_true rfl⟩) rfl hl.1 rfl (Nat.le_of_ble_eq_true rfl) dX12_reckons_18 ⟨Nat.le_of_ble_eq_true rfl, Nat.le_of_ble_eq_true rfl⟩ (fun r28681 hr28681 => ?_)
        refine lv_istore_n (lv' := [(2, .int r28681), (0, .ref (b 0)), (1, .int y9_l1)]) hx hb dX12_reckons_21 rfl hl (by decide) rfl (fun ls hl => ?_)
        refine lv_iload_n hx hb dX12_reckons_22 rfl (lv_at hl 2 rfl) ?_
        refine lv_iload_n hx hb dX12_reckons_23 rfl (lv_at hl 2 rfl) ?_
        refine lv_iconst (v := 1) hx hb dX12_reckons_24 (by decide) ?_
        refine wk_isub (e1 := 0) (f := 4094) hx hb dX12_reckons_25 g28680 (by decide : Rg 1 1 (1 : Int32)) (by decide) (fun r28682 hr28682 er28682 qr28682 => ?_)
        refine wk_iandr hx hb dX12_reckons_26 hr28682 (by decide) (fun r28683 hr28683 qr28683 => ?_)
        refine lv_istore_n (lv' := [(3, .int r28683), (2, .int r28681), (0, .ref (b 0)), (1, .int y9_l1)]) hx hb dX12_reckons_27 rfl hl (by decide) rfl (fun ls hl => ?_)
        refine lv_aload_n hx hb dX12_reckons_28 rfl (lv_at hl 2 rfl) ?_
        refine va_get (D := D) (ci := 12) (v := .ref (b 2)) (C := RX12) (T := TX12) (N := 24) hx hb hts hin12 hown hK hP 0 rfl rfl 3 (by decide) (hts (.fieldLink RX12 17 "MissedPointsModel" "pairs" "[I") (by decide +kernel)) (fun _ h9 => h9) rfl dX12_reckons_29 ?_
        refine lv_iload_n hx hb dX12_reckons_32 rfl (lv_at hl 3 rfl) ?_
        refine lv_aload_n hx hb dX12_reckons_33 rfl (lv_at hl 2 rfl) ?_
        refine va_get (D := D) (ci := 12) (v := .ref (b 2)) (C := RX12) (T := TX12) (N := 24) hx hb hts hin12 hown hK hP 0 rfl rfl 3 (by decide) (hts (.fieldLink RX12 17 "MissedPointsModel" "pairs" "[I") (by decide +kernel)) (fun _ h9 => h9) rfl dX12_reckons_34 ?_
        refine lv_iload_n hx hb dX12_reckons_37 rfl (lv_at hl 0 rfl) ?_
        refine va_iald hx hb hK hP 2 0 rfl rfl (rg_in hr28683 (by decide) (by decide)) dX12_reckons_38 ?_
        refine lz_top (y := (v 2 r28683.toNatClampNeg)) rfl ?_
        refine ms_2 hx hb hK hP hD hS hV rfl (rg_in g28680 (by decide) (by decide)) (wk_nz g28680 (by decide)) dX12_reckons_39 (fun v H locs hV ev28685 hP hD hS => ?_)
        refine lv_iload_n hx hb dX12_reckons_40 rfl (lv_at hl 1 rfl) ?_
        refine lv_iconst (v := 1) hx hb dX12_reckons_41 (by decide) ?_
        refine wk_iadd (e1 := 1) (f := 12) hx hb dX12_reckons_42 hr28681.1 (by decide : Rg 1 1 (1 : Int32)) (by decide) (fun r28686 hr28686 er28686 qr28686 => ?_)
        refine lv_istore (lv' := [(4, .int r28686), (3, .int r28683), (2, .int r28681), (0, .ref (b 0)), (1, .int y9_l1)]) hx hb dX12_reckons_43 hl (by decide) rfl (fun ls hl => ?_)
        exact lp45 12 r28681 r28683 r28686 v _ _ ls g28680 hr28681.1 (show Rg 0 4095 r28683 from rg_w hr28683 (by decide) (by decide)) hr28686 (by exact rk_1 x9_0 g28680 hr28681.2 (by rw [qr28683, qr28682]) ev28685 er28686) hV hP hD hS (lv_sub (l' := [(0, .ref (b 0)), (1, .int y9_l1), (2, .int r28681), (3, .int r28683), (4, .int r28686)]) hl [3, 4, 2, 1, 0] rfl) (me_i hr28686 (by decide))
  refine lv_aload_n hx hb dX12_reckons_0 rfl (lv_at hl 0 rfl) ?_
  refine va_get (D := D) (ci := 12) (v := .ref (b 3)) (C := RX12) (T := TX12) (N := 24) hx hb hts hin12 hown hK hP 0 rfl rfl 4 (by decide) (hts (.fieldLink RX12 20 "MissedPointsModel" "greatestWays" "[I") (by decide +kernel)) (fun _ h9 => h9) rfl dX12_reckons_1 ?_
  refine lv_iconst (v := 0) hx hb dX12_reckons_4 (by decide) ?_
  refine lv_iconst (v := 1) hx hb dX12_reckons_5 (by decide) ?_
  refine ms_3 hx hb hK hP hD hS hV rfl (rg_in (by decide : Rg 0 0 (0 : Int32)) (by decide) (by decide)) dX12_reckons_6 (fun v H locs hV ev28687 hP hD hS => ?_)
  refine lv_iconst (v := 1) hx hb dX12_reckons_7 (by decide) ?_
  refine lv_istore_n (lv' := [(1, .int 1), (0, .ref (b 0))]) hx hb dX12_reckons_8 rfl hl (by decide) rfl (fun ls hl => ?_)
  exact lp9 4096 (1 : Int32) v _ _ ls (by decide : Rg 1 4096 (1 : Int32)) (by exact WI.one ev28687) hV hP hD hS (lv_sub (l' := [(0, .ref (b 0)), (1, .int 1)]) hl [1, 0] rfl) (me_i (by decide : Rg 1 4096 (1 : Int32)) (by decide))
theorem dX12_common_0 : decode cX12_common 0 = .ok (.iload_n 0, 1) := by decide +kernel
theorem dX12_common_1 : decode cX12_common 1 = .ok (.istore_n 2, 1) := by decide +kernel
theorem dX12_common_10 : decode cX12_common 10 = .ok (.irem, 1) := by decide +kernel
theorem dX12_common_11 : decode cX12_common 11 = .ok (.istore 4, 2) := by decide +kernel
theorem dX12_common_13 : decode cX12_common 13 = .ok (.iload_n 3, 1) := by decide +kernel
theorem dX12_common_14 : decode cX12_common 14 = .ok (.istore_n 2, 1) := by decide +kernel
theorem dX12_common_15 : decode cX12_common 15 = .ok (.iload 4, 2) := by decide +kernel
theorem dX12_common_17 : decode cX12_common 17 = .ok (.istore_n 3, 1) := by decide +kernel
theorem dX12_common_18 : decode cX12_common 18 = .ok (.goto (-14), 3) := by decide +kernel
theorem dX12_common_2 : decode cX12_common 2 = .ok (.iload_n 1, 1) := by decide +kernel
theorem dX12_common_21 : decode cX12_common 21 = .ok (.iload_n 2, 1) := by decide +kernel
theorem dX12_common_22 : decode cX12_common 22 = .ok (.ireturn, 1) := by decide +kernel
theorem dX12_common_3 : decode cX12_common 3 = .ok (.istore_n 3, 1) := by decide +kernel
theorem dX12_common_4 : decode cX12_common 4 = .ok (.iload_n 3, 1) := by decide +kernel
theorem dX12_common_5 : decode cX12_common 5 = .ok (.ifCond .eq 16, 3) := by decide +kernel
theorem dX12_common_8 : decode cX12_common 8 = .ok (.iload_n 2, 1) := by decide +kernel
theorem dX12_common_9 : decode cX12_common 9 = .ok (.iload_n 3, 1) := by decide +kernel
set_option maxHeartbeats 4000000 in
set_option maxRecDepth 100000 in
theorem w_X12_common (l : Launch) (D : va_G) (cI cS : ClassId) (x0 x1 : Int32) (px0 : Rg 0 479001600 x0) (px1 : Rg 1 479001600 x1) : Met l yX12_common wsX12_common ({ frames := 0, cells := 0, slots := 0, locals := 0 }) (PS D cI cS [] [.int x0, .int x1]) (vp_Si (fun r => Rg 1 479001600 r ∧ True)) 0 0 (fun _ => False) := by
  refine Met.ofW (cc := cX12_common) (maxL := 5) (ret := (some .int)) (by decide) rfl ?_
  intro p e s m args below meth c s₁ B hml hv
  obtain ⟨rfl, hP, hKK⟩ := hv
  have hx := B.exec
  have hb := B.bytes
  have hr := B.returns
  have hts := atoms_spec (ws := wsX12_common) B.pre
  have hown : s.vm.findClass RX12 = some m.cls := findClass_of_methodNamed B.named
  have hlocks := B.notSynchronized
  have hK := hKK.1
  have hl := lv_entry ([.int x0, .int x1]) (n := 5) (Nat.le_of_ble_eq_true rfl)
  rw [lg_entry_eq]
  generalize (lg_sl ([.int x0, .int x1]) ++ List.replicate (5 - (lg_sl ([.int x0, .int x1])).length) Slot.unset).toArray = ls at hl ⊢
  have hl : lv_has ls 5 [(0, .int x0), (1, .int x1)] := hl
  have lp4 : ∀ (n4 : Nat) (y4_l2 : Int32) (y4_l3 : Int32) (ls : Array Slot), Rg 0 479001600 y4_l2 → Rg 0 479001600 y4_l3 → (1 ≤ y4_l2.toInt ∨ 1 ≤ y4_l3.toInt) → lv_has ls 5 [(2, .int y4_l2), (3, .int y4_l3)] → y4_l3.toInt < (n4 : Int) → W p l e (headSpec wsX12_common ({ frames := 0, cells := 0, slots := 0, locals := 0 })).room s m ([.int x0, .int x1]).toArray below meth c s.heap [] 0 0 (MQ below (vp_Si (fun r => Rg 1 479001600 r ∧ True)) ([.int x0, .int x1]).toArray s 0 0 (fun _ => False)) (F0 m 4 ls []) := by
    intro n4
    induction n4 with
    | zero =>
      intro y4_l2 y4_l3 ls g4_l2 g4_l3 x4_0 hl hm4
      exact absurd rfl (me_0 g4_l3 (by decide) hm4)
    | succ n4 ih4 =>
      intro y4_l2 y4_l3 ls g4_l2 g4_l3 x4_0 hl hm4
      refine lv_iload_n hx hb dX12_common_4 rfl (lv_at hl 1 rfl) ?_
      refine lv_if_eq (tgt := 21) hx hb dX12_common_5 (by decide) (fun c28697 => ?_) (fun c28697 => ?_)
      · have g28698 : Rg 0 0 y4_l3 := wk_eql g4_l3 (by decide : Rg 0 0 (0 : Int32)) c28697 (by decide)
        have g28699 : Rg 1 479001600 y4_l2 := by have y90 : y4_l3.toInt = (0 : Int32).toInt := congrArg Int32.toInt c28697; have y91 : Rg 0 0 y4_l3 := g28698; have y92 : Rg 0 479001600 y4_l2 := g4_l2; have y93 : Rg 0 0 y4_l3 := g28698; have y94 : Rg 0 479001600 y4_l2 := g4_l2; have y9c5 : (0 : Int32).toInt = 0 := (by decide); have y9c6 : (1 : Int32).toInt = 1 := (by decide); exact ⟨by omega, by omega⟩
        refine lv_iload_n hx hb dX12_common_21 rfl (lv_at hl 0 rfl) ?_
        exact W.iret (v := y4_l2) hx hb hr (fun t ht hW => ⟨_, rfl, ⟨g28699, trivial⟩, ht⟩) (fun q hq => absurd hq List.not_mem_nil) dX12_common_22
      · have g28700 : Rg 1 479001600 y4_l3 := rg_ne_lo (k := 0) g4_l3 (by decide) c28697 (by decide)
        refine lv_iload_n hx hb dX12_common_8 rfl (lv_at hl 0 rfl) ?_
        refine lv_iload_n hx hb dX12_common_9 rfl (lv_at hl 1 rfl) ?_
        refine lv_irem hx hb dX12_common_10 (wk_nz g28700 (by decide)) ?_
        refine wk_remv g4_l2 g28700 (by decide) (fun r28701 hr28701 er28701 => ?_)
        refine lv_istore (lv' := [(4, .int r28701), (2, .int y4_l2), (3, .int y4_l3)]) hx hb dX12_common_11 hl (by decide) rfl (fun ls hl => ?_)
        refine lv_iload_n hx hb dX12_common_13 rfl (lv_at hl 2 rfl) ?_
        refine lv_istore_n (lv' := [(2, .int y4_l3), (4, .int r28701), (3, .int y4_l3)]) hx hb dX12_common_14 rfl hl (by decide) rfl (fun ls hl => ?_)
        refine lv_iload hx hb dX12_common_15 (lv_at hl 1 rfl) ?_
        refine lv_istore_n (lv' := [(3, .int r28701), (2, .int y4_l3), (4, .int r28701)]) hx hb dX12_common_17 rfl hl (by decide) rfl (fun ls hl => ?_)
        refine lv_goto (tgt := 4) hx hb dX12_common_18 (by decide) ?_
        exact ih4 y4_l3 r28701 ls (show Rg 0 479001600 y4_l3 from rg_w g28700 (by decide) (by decide)) (show Rg 0 479001600 r28701 from rg_w hr28701 (by decide) (by decide)) (show (1 ≤ y4_l3.toInt ∨ 1 ≤ r28701.toInt) from by have y90 : ¬ y4_l3.toInt = (0 : Int32).toInt := fun z => c28697 (Int32.toInt_inj.mp z); have y91 : Rg 1 479001600 y4_l3 := g28700; have y92 : Rg 1 479001600 y4_l3 := g28700; have y93 : Rg 0 479001599 r28701 := hr28701; have y94 : Rg 0 479001599 r28701 := hr28701; have y9c5 : (0 : Int32).toInt = 0 := (by decide); have y9c6 : (1 : Int32).toInt = 1 := (by decide); omega) (lv_sub (l' := [(2, .int y4_l3), (3, .int r28701)]) hl [1, 0] rfl) (me_lt hm4 er28701)
  refine lv_iload_n hx hb dX12_common_0 rfl (lv_at hl 0 rfl) ?_
  refine lv_istore_n (lv' := [(2, .int x0), (0, .int x0), (1, .int x1)]) hx hb dX12_common_1 rfl hl (by decide) rfl (fun ls hl => ?_)
  refine lv_iload_n hx hb dX12_common_2 rfl (lv_at hl 2 rfl) ?_
  refine lv_istore_n (lv' := [(3, .int x1), (2, .int x0), (0, .int x0), (1, .int x1)]) hx hb dX12_common_3 rfl hl (by decide) rfl (fun ls hl => ?_)
  exact lp4 479001601 x0 x1 ls px0 (show Rg 0 479001600 x1 from rg_w px1 (by decide) (by decide)) (show (1 ≤ x0.toInt ∨ 1 ≤ x1.toInt) from by have y90 : Rg 0 479001600 x0 := px0; have y91 : Rg 1 479001600 x1 := px1; have y92 : Rg 0 479001600 x0 := px0; have y93 : Rg 1 479001600 x1 := px1; have y9c4 : (0 : Int32).toInt = 0 := (by decide); have y9c5 : (1 : Int32).toInt = 1 := (by decide); omega) (lv_sub (l' := [(2, .int x0), (3, .int x1)]) hl [1, 0] rfl) (me_k (show Rg 0 479001600 x1 from rg_w px1 (by decide) (by decide)) (by decide))
set_option maxRecDepth 20000 in
theorem ggX12_alone_X12_all : GoodIn wsX12_alone wsX12_all := goodIn_r _ [20, 7, 34, 35, 36, 37, 38, 39, 40, 41, 42, 43, 44, 45, 46, 47, 48, 49, 50, 51, 52, 53, 54, 55, 56, 57] (by decide +kernel) (by decide +kernel)
set_option maxRecDepth 20000 in
theorem gX12_alone_X12_all : GoodIn wsX12_alone (wsV RX12 70 RX12 yX12_all wsX12_all) := goodIn_app (goodIn_of _ (by decide +kernel)) ggX12_alone_X12_all
set_option maxRecDepth 20000 in
theorem ggX12_alone_X12_common : GoodIn wsX12_alone wsX12_common := goodIn_r _ [33] (by decide +kernel) (by decide +kernel)
set_option maxRecDepth 20000 in
theorem gX12_alone_X12_common : GoodIn wsX12_alone (va_wsS RX12 122 yX12_common wsX12_common) := goodIn_app (goodIn_of _ (by decide +kernel)) ggX12_alone_X12_common
set_option maxRecDepth 20000 in
theorem ggX12_alone_X12_in : GoodIn wsX12_alone wsX12_in := goodIn_r _ [10] (by decide +kernel) (by decide +kernel)
set_option maxRecDepth 20000 in
theorem gX12_alone_X12_in : GoodIn wsX12_alone (va_wsS RX12 66 yX12_in wsX12_in) := goodIn_app (goodIn_of _ (by decide +kernel)) ggX12_alone_X12_in
set_option maxRecDepth 20000 in
theorem ggX12_alone_X12_isLoose : GoodIn wsX12_alone wsX12_isLoose := goodIn_r _ [30, 15, 17, 18, 19, 5, 20, 7, 34, 35, 36, 37, 38, 39, 40, 41, 42, 43, 44, 45, 46, 47, 48, 49, 50, 51, 52, 53, 54, 55, 56, 57] (by decide +kernel) (by decide +kernel)
set_option maxRecDepth 20000 in
theorem gX12_alone_X12_isLoose : GoodIn wsX12_alone (wsV RX12 119 RX12 yX12_isLoose wsX12_isLoose) := goodIn_app (goodIn_of _ (by decide +kernel)) ggX12_alone_X12_isLoose
set_option maxRecDepth 20000 in
theorem ggX12_alone_X12_reckons : GoodIn wsX12_alone wsX12_reckons := goodIn_r _ [14, 1, 15, 7, 16, 17, 18, 19, 5, 20, 21, 22, 23, 24, 25, 26, 34, 35, 36, 37, 38, 39, 40, 41, 42, 43, 44, 45, 46, 47, 48, 49, 50, 51, 52, 53, 54, 55, 56, 57] (by decide +kernel) (by decide +kernel)
set_option maxRecDepth 20000 in
theorem gX12_alone_X12_reckons : GoodIn wsX12_alone (wsV RX12 107 RX12 yX12_reckons wsX12_reckons) := goodIn_app (goodIn_of _ (by decide +kernel)) ggX12_alone_X12_reckons
theorem dX12_alone_10 : decode cX12_alone 10 = .ok (.iconst 1, 1) := by decide +kernel
theorem dX12_alone_11 : decode cX12_alone 11 = .ok (.invokestatic 66, 3) := by decide +kernel
theorem dX12_alone_14 : decode cX12_alone 14 = .ok (.ifCond .ne 6, 3) := by decide +kernel
theorem dX12_alone_20 : decode cX12_alone 20 = .ok (.aload_n 0, 1) := by decide +kernel
theorem dX12_alone_21 : decode cX12_alone 21 = .ok (.invokevirtual 107, 3) := by decide +kernel
theorem dX12_alone_24 : decode cX12_alone 24 = .ok (.aload_n 0, 1) := by decide +kernel
theorem dX12_alone_25 : decode cX12_alone 25 = .ok (.iload_n 1, 1) := by decide +kernel
theorem dX12_alone_26 : decode cX12_alone 26 = .ok (.invokevirtual 119, 3) := by decide +kernel
theorem dX12_alone_29 : decode cX12_alone 29 = .ok (.ifCond .eq 21, 3) := by decide +kernel
theorem dX12_alone_32 : decode cX12_alone 32 = .ok (.aload_n 0, 1) := by decide +kernel
theorem dX12_alone_33 : decode cX12_alone 33 = .ok (.getfield 20, 3) := by decide +kernel
theorem dX12_alone_36 : decode cX12_alone 36 = .ok (.aload_n 0, 1) := by decide +kernel
theorem dX12_alone_37 : decode cX12_alone 37 = .ok (.invokevirtual 70, 3) := by decide +kernel
theorem dX12_alone_40 : decode cX12_alone 40 = .ok (.iconst 1, 1) := by decide +kernel
theorem dX12_alone_41 : decode cX12_alone 41 = .ok (.iload_n 1, 1) := by decide +kernel
theorem dX12_alone_42 : decode cX12_alone 42 = .ok (.ishl, 1) := by decide +kernel
theorem dX12_alone_43 : decode cX12_alone 43 = .ok (.iconst (-1), 1) := by decide +kernel
theorem dX12_alone_44 : decode cX12_alone 44 = .ok (.ixor, 1) := by decide +kernel
theorem dX12_alone_45 : decode cX12_alone 45 = .ok (.iand, 1) := by decide +kernel
theorem dX12_alone_46 : decode cX12_alone 46 = .ok (.iaload, 1) := by decide +kernel
theorem dX12_alone_47 : decode cX12_alone 47 = .ok (.goto 4, 3) := by decide +kernel
theorem dX12_alone_50 : decode cX12_alone 50 = .ok (.iconst 0, 1) := by decide +kernel
theorem dX12_alone_51 : decode cX12_alone 51 = .ok (.istore_n 3, 1) := by decide +kernel
theorem dX12_alone_52 : decode cX12_alone 52 = .ok (.aload_n 0, 1) := by decide +kernel
theorem dX12_alone_53 : decode cX12_alone 53 = .ok (.getfield 20, 3) := by decide +kernel
theorem dX12_alone_56 : decode cX12_alone 56 = .ok (.aload_n 0, 1) := by decide +kernel
theorem dX12_alone_57 : decode cX12_alone 57 = .ok (.invokevirtual 70, 3) := by decide +kernel
theorem dX12_alone_60 : decode cX12_alone 60 = .ok (.iaload, 1) := by decide +kernel
theorem dX12_alone_61 : decode cX12_alone 61 = .ok (.istore 4, 2) := by decide +kernel
theorem dX12_alone_63 : decode cX12_alone 63 = .ok (.iload_n 2, 1) := by decide +kernel
theorem dX12_alone_64 : decode cX12_alone 64 = .ok (.ifCond .ne 7, 3) := by decide +kernel
theorem dX12_alone_67 : decode cX12_alone 67 = .ok (.iload_n 3, 1) := by decide +kernel
theorem dX12_alone_68 : decode cX12_alone 68 = .ok (.goto 5, 3) := by decide +kernel
theorem dX12_alone_71 : decode cX12_alone 71 = .ok (.iload 4, 2) := by decide +kernel
theorem dX12_alone_73 : decode cX12_alone 73 = .ok (.iload_n 3, 1) := by decide +kernel
theorem dX12_alone_74 : decode cX12_alone 74 = .ok (.iload 4, 2) := by decide +kernel
theorem dX12_alone_76 : decode cX12_alone 76 = .ok (.invokestatic 122, 3) := by decide +kernel
theorem dX12_alone_79 : decode cX12_alone 79 = .ok (.idiv, 1) := by decide +kernel
theorem dX12_alone_8 : decode cX12_alone 8 = .ok (.iload_n 2, 1) := by decide +kernel
theorem dX12_alone_80 : decode cX12_alone 80 = .ok (.ireturn, 1) := by decide +kernel
theorem dX12_alone_9 : decode cX12_alone 9 = .ok (.iconst 0, 1) := by decide +kernel
set_option maxHeartbeats 4000000 in
set_option maxRecDepth 100000 in
theorem w_X12_alone (l : Launch) (D : va_G) (cI cS : ClassId) (sz : Nat) (b : Nat → Nat) (L v0 : SU) (hL : TyL L) (hV : TyV v0) (x0 x1 : Int32) : Met l yX12_alone wsX12_alone ({ frames := 3, cells := 0, slots := 0, locals := 120 }) (PQ D cI cS (wM cI b L v0) sz [.ref (b 0), .int x0, .int x1]) (QF (S := SU) D (wM cI b L v0) (wM cI b L) sz (fun r u => TyV u ∧ Rg (-2147483648) 2147483647 r ∧ True)) 0 0 (va_A (wM cI b L v0) sz) := by
  refine Met.ofW (cc := cX12_alone) (maxL := 5) (ret := (some .int)) (by decide) rfl ?_
  intro p e s m args below meth c s₁ B hml hv
  obtain ⟨rfl, hsz, hP, hKK, hD0⟩ := hv
  have hx := B.exec
  have hb := B.bytes
  have hr := B.returns
  have hts := atoms_spec (ws := wsX12_alone) B.pre
  have hown : s.vm.findClass RX12 = some m.cls := findClass_of_methodNamed B.named
  have hlocks := B.notSynchronized
  have hK := hKK.1
  have hin12 : ∀ w ∈ wsX120, w ∈ wsX12_alone := by decide +kernel
  subst hsz
  have hD := hD0.self (sz := s.heap.size)
  obtain ⟨A, hAe⟩ : ∃ A, A = va_A (wM cI b L v0) s.heap.size := ⟨_, rfl⟩
  rw [← hAe] at hD
  have hA : ∀ q : Nat, s.heap.size ≤ q → A q := fun q h => by rw [hAe]; exact Or.inr h
  have hS : va_S A s.heap s.heap [] := va_S.rf
  have hl := lv_entry ([.ref (b 0), .int x0, .int x1]) (n := 5) (Nat.le_of_ble_eq_true rfl)
  rw [lg_entry_eq]
  generalize (lg_sl ([.ref (b 0), .int x0, .int x1]) ++ List.replicate (5 - (lg_sl ([.ref (b 0), .int x0, .int x1])).length) Slot.unset).toArray = ls at hl ⊢
  have hl : lv_has ls 5 [(0, .ref (b 0)), (1, .int x0), (2, .int x1)] := hl
  obtain ⟨v, hv9⟩ : ∃ v : SU, v = v0 := ⟨_, rfl⟩
  rw [← hv9] at hP hD hV
  refine lv_aload_n hx hb dX12_alone_0 rfl (lv_at hl 0 rfl) ?_
  refine lv_iload_n hx hb dX12_alone_1 rfl (lv_at hl 1 rfl) ?_
  refine wk_sv 0 (As := [.int x0]) (rest := []) ⟨hx, hb, hml, hown, hts⟩ (w_X12_isPoint l D cI cS b L v hL hV x0) hKK hP (ci := 12) rfl rfl (cwV 1 hts gX12_alone_X12_isPoint rfl rfl rfl (by decide +kernel) ⟨Nat.le_of_ble_eq_true rfl, Nat.le_of_ble_eq_true rfl⟩) rfl hl.1 rfl (Nat.le_of_ble_eq_true rfl) dX12_alone_2 ⟨Nat.le_of_ble_eq_true rfl, Nat.le_of_ble_eq_true rfl⟩ (fun r28746 hr28746 => ?_)
  refine lv_if_eq (tgt := 17) hx hb dX12_alone_5 (by decide) (fun c28747 => ?_) (fun c28747 => ?_)
  · have zt28748 : (x0.toInt < 0 ∨ (L 0 0).toInt - 1 < x0.toInt) := hr28746.2.2 c28747
    have g28749 : Rg 0 0 r28746 := wk_eql hr28746.1 (by decide : Rg 0 0 (0 : Int32)) c28747 (by decide)
    refine lv_bipush (v := (-2)) hx hb dX12_alone_17 (by decide) ?_
    subst hAe
    exact W.iret (v := (-2)) hx hb hr (fun t ht hW => ⟨⟨_, v, rfl, ⟨hV, (by decide : Rg (-2147483648) 2147483647 ((-2) : Int32)), trivial⟩, by rw [ht]; exact hP, hD⟩, hS.F ht⟩) hS.2.2 dX12_alone_19
  · have g28750 : Rg 0 11 x0 := (hr28746.2.1 c28747)
    have g28751 : Rg 1 1 r28746 := rg_ne_lo (k := 0) hr28746.1 (by decide) c28747 (by decide)
    refine lv_iload_n hx hb dX12_alone_8 rfl (lv_at hl 2 rfl) ?_
    refine lv_iconst (v := 0) hx hb dX12_alone_9 (by decide) ?_
    refine lv_iconst (v := 1) hx hb dX12_alone_10 (by decide) ?_
    refine lz_ss (As := [.int x1, .int 0, .int 1]) (rest := []) ⟨hx, hb, hml, hown, hts⟩ (w_X12_in l D cI cS x1 (0 : Int32) (1 : Int32)) hKK (hP.sub (ws' := []) [] rfl) (va_cwS 3 hts gX12_alone_X12_in rfl rfl rfl (by decide +kernel) ⟨Nat.le_of_ble_eq_true rfl, Nat.le_of_ble_eq_true rfl⟩) rfl hl.1 rfl (Nat.le_of_ble_eq_true rfl) dX12_alone_11 ⟨Nat.le_of_ble_eq_true rfl, Nat.le_of_ble_eq_true rfl⟩ (fun r28752 hr28752 => ?_)
    refine lv_if_ne (tgt := 20) hx hb dX12_alone_14 (by decide) (fun c28753 => ?_) (fun c28753 => ?_)
    · have zn28754 : (0 : Int32).toInt ≤ x1.toInt ∧ x1.toInt ≤ (1 : Int32).toInt := (hr28752.2.2 c28753)
      have g28755 : Rg 0 1 x1 := wk_in3 (rg_any x1) (by decide : Rg 0 0 (0 : Int32)) (by decide : Rg 1 1 (1 : Int32)) (hr28752.2.2 c28753) (by decide)
      have g28756 : Rg 1 1 r28752 := rg_ne_lo (k := 0) hr28752.1 (by decide) c28753 (by decide)
      refine lv_aload_n hx hb dX12_alone_20 rfl (lv_at hl 0 rfl) ?_
      refine wk_qv (wM cI b L) v (As := []) (rest := []) ⟨hx, hb, hml, hown, hts⟩ (w_X12_reckons_W l D cI cS _ b L v hL hV) hKK hP hD hS hA 0 (ci := 12) rfl rfl (cwV 0 hts gX12_alone_X12_reckons rfl rfl rfl (by decide +kernel) ⟨Nat.le_of_ble_eq_true rfl, Nat.le_of_ble_eq_true rfl⟩) rfl hl.1 rfl (Nat.le_of_ble_eq_true rfl) dX12_alone_21 ⟨Nat.le_of_ble_eq_true rfl, Nat.le_of_ble_eq_true rfl⟩ (fun v H locs hr28757 hP hD hS => ?_)
      have hV := hr28757.1
      have hWW := hr28757.2
      refine lv_aload_n hx hb dX12_alone_24 rfl (lv_at hl 0 rfl) ?_
      refine lv_iload_n hx hb dX12_alone_25 rfl (lv_at hl 1 rfl) ?_
      refine wk_sv 0 (As := [.int x0]) (rest := []) ⟨hx, hb, hml, hown, hts⟩ (w_X12_isLoose l D cI cS b L v hL hV x0) hKK hP (ci := 12) rfl rfl (cwV 1 hts gX12_alone_X12_isLoose rfl rfl rfl (by decide +kernel) ⟨Nat.le_of_ble_eq_true rfl, Nat.le_of_ble_eq_true rfl⟩) rfl hl.1 rfl (Nat.le_of_ble_eq_true rfl) dX12_alone_26 ⟨Nat.le_of_ble_eq_true rfl, Nat.le_of_ble_eq_true rfl⟩ (fun r28758 hr28758 => ?_)
      refine lv_if_eq (tgt := 50) hx hb dX12_alone_29 (by decide) (fun c28759 => ?_) (fun c28759 => ?_)
      · have g28760 : Rg 0 0 r28758 := wk_eql hr28758.1 (by decide : Rg 0 0 (0 : Int32)) c28759 (by decide)
        refine lv_iconst (v := 0) hx hb dX12_alone_50 (by decide) ?_
        refine lv_istore_n (lv' := [(3, .int 0), (0, .ref (b 0)), (1, .int x0), (2, .int x1)]) hx hb dX12_alone_51 rfl hl (by decide) rfl (fun ls hl => ?_)
        refine lv_aload_n hx hb dX12_alone_52 rfl (lv_at hl 1 rfl) ?_
        refine va_get (D := D) (ci := 12) (v := .ref (b 3)) (C := RX12) (T := TX12) (N := 24) hx hb hts hin12 hown hK hP 0 rfl rfl 4 (by decide) (hts (.fieldLink RX12 20 "MissedPointsModel" "greatestWays" "[I") (by decide +kernel)) (fun _ h9 => h9) rfl dX12_alone_53 ?_
        refine lv_aload_n hx hb dX12_alone_56 rfl (lv_at hl 1 rfl) ?_
        refine wk_sv 0 (As := []) (rest := [.ref (b 3)]) ⟨hx, hb, hml, hown, hts⟩ (w_X12_all l D cI cS b L v hL hV) hKK hP (ci := 12) rfl rfl (cwV 0 hts gX12_alone_X12_all rfl rfl rfl (by decide +kernel) ⟨Nat.le_of_ble_eq_true rfl, Nat.le_of_ble_eq_true rfl⟩) rfl hl.1 rfl (Nat.le_of_ble_eq_true rfl) dX12_alone_57 ⟨Nat.le_of_ble_eq_true rfl, Nat.le_of_ble_eq_true rfl⟩ (fun r28761 hr28761 => ?_)
        refine va_iald hx hb hK hP 3 0 rfl rfl (rg_in hr28761.1 (by decide) (by decide)) dX12_alone_60 ?_
        refine lz_top (y := (v 3 r28761.toNatClampNeg)) rfl ?_
        have g28763 : Rg 1 479001600 (v 3 r28761.toNatClampNeg) := hWW _ (by rw [← hr28761.2]; exact cl_le hr28761.1.1 (Int.le_refl _))
        refine lv_istore (lv' := [(4, .int (v 3 r28761.toNatClampNeg)), (3, .int 0), (0, .ref (b 0)), (1, .int x0), (2, .int x1)]) hx hb dX12_alone_61 hl (by decide) rfl (fun ls hl => ?_)
        refine lv_iload_n hx hb dX12_alone_63 rfl (lv_at hl 4 rfl) ?_
        refine lv_if_ne (tgt := 71) hx hb dX12_alone_64 (by decide) (fun c28764 => ?_) (fun c28764 => ?_)
        · have g28765 : Rg 1 1 x1 := rg_ne_lo (k := 0) g28755 (by decide) c28764 (by decide)
          refine lv_iload hx hb dX12_alone_71 (lv_at hl 0 rfl) ?_
          refine lv_iload_n hx hb dX12_alone_73 rfl (lv_at hl 1 rfl) ?_
          refine lv_iload hx hb dX12_alone_74 (lv_at hl 0 rfl) ?_
          refine lz_ss (As := [.int 0, .int (v 3 r28761.toNatClampNeg)]) (rest := [.int (v 3 r28761.toNatClampNeg)]) ⟨hx, hb, hml, hown, hts⟩ (w_X12_common l D cI cS (0 : Int32) (v 3 r28761.toNatClampNeg) (by decide : Rg 0 479001600 (0 : Int32)) g28763) hKK (hP.sub (ws' := []) [] rfl) (va_cwS 2 hts gX12_alone_X12_common rfl rfl rfl (by decide +kernel) ⟨Nat.le_of_ble_eq_true rfl, Nat.le_of_ble_eq_true rfl⟩) rfl hl.1 rfl (Nat.le_of_ble_eq_true rfl) dX12_alone_76 ⟨Nat.le_of_ble_eq_true rfl, Nat.le_of_ble_eq_true rfl⟩ (fun r28766 hr28766 => ?_)
          refine lv_idiv hx hb dX12_alone_79 (wk_nz hr28766.1 (by decide)) ?_
          refine wk_any (fun r28767 => ?_)
          subst hAe
          exact W.iret (v := r28767) hx hb hr (fun t ht hW => ⟨⟨_, v, rfl, ⟨hV, (rg_any r28767), trivial⟩, by rw [ht]; exact hP, hD⟩, hS.F ht⟩) hS.2.2 dX12_alone_80
        · have g28768 : Rg 0 0 x1 := wk_eql g28755 (by decide : Rg 0 0 (0 : Int32)) c28764 (by decide)
          refine lv_iload_n hx hb dX12_alone_67 rfl (lv_at hl 1 rfl) ?_
          refine lv_goto (tgt := 73) hx hb dX12_alone_68 (by decide) ?_
          refine lv_iload_n hx hb dX12_alone_73 rfl (lv_at hl 1 rfl) ?_
          refine lv_iload hx hb dX12_alone_74 (lv_at hl 0 rfl) ?_
          refine lz_ss (As := [.int 0, .int (v 3 r28761.toNatClampNeg)]) (rest := [.int 0]) ⟨hx, hb, hml, hown, hts⟩ (w_X12_common l D cI cS (0 : Int32) (v 3 r28761.toNatClampNeg) (by decide : Rg 0 479001600 (0 : Int32)) g28763) hKK (hP.sub (ws' := []) [] rfl) (va_cwS 2 hts gX12_alone_X12_common rfl rfl rfl (by decide +kernel) ⟨Nat.le_of_ble_eq_true rfl, Nat.le_of_ble_eq_true rfl⟩) rfl hl.1 rfl (Nat.le_of_ble_eq_true rfl) dX12_alone_76 ⟨Nat.le_of_ble_eq_true rfl, Nat.le_of_ble_eq_true rfl⟩ (fun r28769 hr28769 => ?_)
          refine lv_idiv hx hb dX12_alone_79 (wk_nz hr28769.1 (by decide)) ?_
          refine wk_any (fun r28770 => ?_)
          subst hAe
          exact W.iret (v := r28770) hx hb hr (fun t ht hW => ⟨⟨_, v, rfl, ⟨hV, (rg_any r28770), trivial⟩, by rw [ht]; exact hP, hD⟩, hS.F ht⟩) hS.2.2 dX12_alone_80
      · have g28771 : Rg 1 1 r28758 := rg_ne_lo (k := 0) hr28758.1 (by decide) c28759 (by decide)
        refine lv_aload_n hx hb dX12_alone_32 rfl (lv_at hl 0 rfl) ?_
        refine va_get (D := D) (ci := 12) (v := .ref (b 3)) (C := RX12) (T := TX12) (N := 24) hx hb hts hin12 hown hK hP 0 rfl rfl 4 (by decide) (hts (.fieldLink RX12 20 "MissedPointsModel" "greatestWays" "[I") (by decide +kernel)) (fun _ h9 => h9) rfl dX12_alone_33 ?_
        refine lv_aload_n hx hb dX12_alone_36 rfl (lv_at hl 0 rfl) ?_
        refine wk_sv 0 (As := []) (rest := [.ref (b 3)]) ⟨hx, hb, hml, hown, hts⟩ (w_X12_all l D cI cS b L v hL hV) hKK hP (ci := 12) rfl rfl (cwV 0 hts gX12_alone_X12_all rfl rfl rfl (by decide +kernel) ⟨Nat.le_of_ble_eq_true rfl, Nat.le_of_ble_eq_true rfl⟩) rfl hl.1 rfl (Nat.le_of_ble_eq_true rfl) dX12_alone_37 ⟨Nat.le_of_ble_eq_true rfl, Nat.le_of_ble_eq_true rfl⟩ (fun r28772 hr28772 => ?_)
        refine lv_iconst (v := 1) hx hb dX12_alone_40 (by decide) ?_
        refine lv_iload_n hx hb dX12_alone_41 rfl (lv_at hl 1 rfl) ?_
        refine wk_ishl1 (f := 2048) hx hb dX12_alone_42 g28750 (by decide) (fun r28773 hr28773 qr28773 => ?_)
        refine lv_iconst (v := (-1)) hx hb dX12_alone_43 (by decide) ?_
        refine lv_ixor hx hb dX12_alone_44 ?_
        refine wk_topP (P := fun r => r = r28773 ^^^ ((-1) : Int32)) rfl (fun r28774 qr28774 => ?_)
        refine wk_iandl hx hb dX12_alone_45 hr28772.1 (by decide) (fun r28775 hr28775 qr28775 => ?_)
        refine va_iald hx hb hK hP 3 0 rfl rfl (rg_in hr28775 (by decide) (by decide)) dX12_alone_46 ?_
        refine lz_top (y := (v 3 r28775.toNatClampNeg)) rfl ?_
        have g28777 : Rg 1 479001600 (v 3 r28775.toNatClampNeg) := hWW _ (by rw [← hr28772.2]; exact cl_le hr28775.1 ((by rw [qr28775]; exact an_le hr28772.1.1)))
        refine lv_goto (tgt := 51) hx hb dX12_alone_47 (by decide) ?_
        refine lv_istore_n (lv' := [(3, .int (v 3 r28775.toNatClampNeg)), (0, .ref (b 0)), (1, .int x0), (2, .int x1)]) hx hb dX12_alone_51 rfl hl (by decide) rfl (fun ls hl => ?_)
        refine lv_aload_n hx hb dX12_alone_52 rfl (lv_at hl 1 rfl) ?_
        refine va_get (D := D) (ci := 12) (v := .ref (b 3)) (C := RX12) (T := TX12) (N := 24) hx hb hts hin12 hown hK hP 0 rfl rfl 4 (by decide) (hts (.fieldLink RX12 20 "MissedPointsModel" "greatestWays" "[I") (by decide +kernel)) (fun _ h9 => h9) rfl dX12_alone_53 ?_
        refine lv_aload_n hx hb dX12_alone_56 rfl (lv_at hl 1 rfl) ?_
        refine wk_sv 0 (As := []) (rest := [.ref (b 3)]) ⟨hx, hb, hml, hown, hts⟩ (w_X12_all l D cI cS b L v hL hV) hKK hP (ci := 12) rfl rfl (cwV 0 hts gX12_alone_X12_all rfl rfl rfl (by decide +kernel) ⟨Nat.le_of_ble_eq_true rfl, Nat.le_of_ble_eq_true rfl⟩) rfl hl.1 rfl (Nat.le_of_ble_eq_true rfl) dX12_alone_57 ⟨Nat.le_of_ble_eq_true rfl, Nat.le_of_ble_eq_true rfl⟩ (fun r28778 hr28778 => ?_)
        refine va_iald hx hb hK hP 3 0 rfl rfl (rg_in hr28778.1 (by decide) (by decide)) dX12_alone_60 ?_
        refine lz_top (y := (v 3 r28778.toNatClampNeg)) rfl ?_
        have g28780 : Rg 1 479001600 (v 3 r28778.toNatClampNeg) := hWW _ (by rw [← hr28778.2]; exact cl_le hr28778.1.1 (Int.le_refl _))
        refine lv_istore (lv' := [(4, .int (v 3 r28778.toNatClampNeg)), (3, .int (v 3 r28775.toNatClampNeg)), (0, .ref (b 0)), (1, .int x0), (2, .int x1)]) hx hb dX12_alone_61 hl (by decide) rfl (fun ls hl => ?_)
        refine lv_iload_n hx hb dX12_alone_63 rfl (lv_at hl 4 rfl) ?_
        refine lv_if_ne (tgt := 71) hx hb dX12_alone_64 (by decide) (fun c28781 => ?_) (fun c28781 => ?_)
        · have g28782 : Rg 1 1 x1 := rg_ne_lo (k := 0) g28755 (by decide) c28781 (by decide)
          refine lv_iload hx hb dX12_alone_71 (lv_at hl 0 rfl) ?_
          refine lv_iload_n hx hb dX12_alone_73 rfl (lv_at hl 1 rfl) ?_
          refine lv_iload hx hb dX12_alone_74 (lv_at hl 0 rfl) ?_
          refine lz_ss (As := [.int (v 3 r28775.toNatClampNeg), .int (v 3 r28778.toNatClampNeg)]) (rest := [.int (v 3 r28778.toNatClampNeg)]) ⟨hx, hb, hml, hown, hts⟩ (w_X12_common l D cI cS (v 3 r28775.toNatClampNeg) (v 3 r28778.toNatClampNeg) (show Rg 0 479001600 (v 3 r28775.toNatClampNeg) from rg_w g28777 (by decide) (by decide)) g28780) hKK (hP.sub (ws' := []) [] rfl) (va_cwS 2 hts gX12_alone_X12_common rfl rfl rfl (by decide +kernel) ⟨Nat.le_of_ble_eq_true rfl, Nat.le_of_ble_eq_true rfl⟩) rfl hl.1 rfl (Nat.le_of_ble_eq_true rfl) dX12_alone_76 ⟨Nat.le_of_ble_eq_true rfl, Nat.le_of_ble_eq_true rfl⟩ (fun r28783 hr28783 => ?_)
          refine lv_idiv hx hb dX12_alone_79 (wk_nz hr28783.1 (by decide)) ?_
          refine wk_any (fun r28784 => ?_)
          subst hAe
          exact W.iret (v := r28784) hx hb hr (fun t ht hW => ⟨⟨_, v, rfl, ⟨hV, (rg_any r28784), trivial⟩, by rw [ht]; exact hP, hD⟩, hS.F ht⟩) hS.2.2 dX12_alone_80
        · have g28785 : Rg 0 0 x1 := wk_eql g28755 (by decide : Rg 0 0 (0 : Int32)) c28781 (by decide)
          refine lv_iload_n hx hb dX12_alone_67 rfl (lv_at hl 1 rfl) ?_
          refine lv_goto (tgt := 73) hx hb dX12_alone_68 (by decide) ?_
          refine lv_iload_n hx hb dX12_alone_73 rfl (lv_at hl 1 rfl) ?_
          refine lv_iload hx hb dX12_alone_74 (lv_at hl 0 rfl) ?_
          refine lz_ss (As := [.int (v 3 r28775.toNatClampNeg), .int (v 3 r28778.toNatClampNeg)]) (rest := [.int (v 3 r28775.toNatClampNeg)]) ⟨hx, hb, hml, hown, hts⟩ (w_X12_common l D cI cS (v 3 r28775.toNatClampNeg) (v 3 r28778.toNatClampNeg) (show Rg 0 479001600 (v 3 r28775.toNatClampNeg) from rg_w g28777 (by decide) (by decide)) g28780) hKK (hP.sub (ws' := []) [] rfl) (va_cwS 2 hts gX12_alone_X12_common rfl rfl rfl (by decide +kernel) ⟨Nat.le_of_ble_eq_true rfl, Nat.le_of_ble_eq_true rfl⟩) rfl hl.1 rfl (Nat.le_of_ble_eq_true rfl) dX12_alone_76 ⟨Nat.le_of_ble_eq_true rfl, Nat.le_of_ble_eq_true rfl⟩ (fun r28786 hr28786 => ?_)
          refine lv_idiv hx hb dX12_alone_79 (wk_nz hr28786.1 (by decide)) ?_
          refine wk_any (fun r28787 => ?_)
          subst hAe
          exact W.iret (v := r28787) hx hb hr (fun t ht hW => ⟨⟨_, v, rfl, ⟨hV, (rg_any r28787), trivial⟩, by rw [ht]; exact hP, hD⟩, hS.F ht⟩) hS.2.2 dX12_alone_80
    · have zt28788 : (x1.toInt < (0 : Int32).toInt ∨ (1 : Int32).toInt < x1.toInt) := hr28752.2.1 c28753
      have g28789 : Rg 0 0 r28752 := wk_eql hr28752.1 (by decide : Rg 0 0 (0 : Int32)) c28753 (by decide)
      refine lv_bipush (v := (-2)) hx hb dX12_alone_17 (by decide) ?_
      subst hAe
      exact W.iret (v := (-2)) hx hb hr (fun t ht hW => ⟨⟨_, v, rfl, ⟨hV, (by decide : Rg (-2147483648) 2147483647 ((-2) : Int32)), trivial⟩, by rw [ht]; exact hP, hD⟩, hS.F ht⟩) hS.2.2 dX12_alone_19
theorem w_X12_bits_E (l : Launch) (D : va_G) (cI cS : ClassId) (x0 : Int32) (px0 : Rg 0 4095 x0) : Met l yX12_bits wsX12_bits ({ frames := 0, cells := 0, slots := 0, locals := 0 }) (PS D cI cS [] [.int x0]) (vp_Si (fun r => Rg 0 12 r ∧ r = bc x0)) 0 0 (fun _ => False) := by
  have h9 := bc_rng px0
  obtain ⟨n, hn, rfl, e⟩ := rg_nat px0.1
  have h2 := px0.2
  refine met_si (c_bits l D cI cS n (by omega)) (fun r hr => ⟨?_, hr⟩)
  rw [hr]
  exact h9
set_option maxHeartbeats 4000000 in
set_option maxRecDepth 100000 in
theorem w_X12_isCritical_E (l : Launch) (D : va_G) (cI cS : ClassId) (b : Nat → Nat) (L v : SU) (hL : TyL L) (hV : TyV v) (x0 : Int32) (px0 : Rg 0 4095 x0) : Met l yX12_isCritical wsX12_isCritical ({ frames := 1, cells := 0, slots := 0, locals := 40 }) (PS D cI cS (wM cI b L v) [.ref (b 0), .int x0]) (vp_Si (fun r => Rg 0 1 r ∧ ((r ≠ 0 → CRT v (L 0 0) x0) ∧ (r = 0 → ¬ CRT v (L 0 0) x0)))) 0 0 (fun _ => False) := by
  refine Met.ofW (cc := cX12_isCritical) (maxL := 4) (ret := (some .boolean)) (by decide) rfl ?_
  intro p e s m args below meth c s₁ B hml hv
  obtain ⟨rfl, hP, hKK⟩ := hv
  have hx := B.exec
  have hb := B.bytes
  have hr := B.returns
  have hts := atoms_spec (ws := wsX12_isCritical) B.pre
  have hown : s.vm.findClass RX12 = some m.cls := findClass_of_methodNamed B.named
  have hlocks := B.notSynchronized
  have hK := hKK.1
  have hin12 : ∀ w ∈ wsX120, w ∈ wsX12_isCritical := by decide +kernel
  have hl := lv_entry ([.ref (b 0), .int x0]) (n := 4) (Nat.le_of_ble_eq_true rfl)
  rw [lg_entry_eq]
  generalize (lg_sl ([.ref (b 0), .int x0]) ++ List.replicate (4 - (lg_sl ([.ref (b 0), .int x0])).length) Slot.unset).toArray = ls at hl ⊢
  have hl : lv_has ls 4 [(0, .ref (b 0)), (1, .int x0)] := hl
  have lp18 : ∀ (n18 : Nat) (y18_l2 : Int32) (y18_l3 : Int32) (ls : Array Slot), Rg 0 4095 x0 → Rg 0 1 y18_l2 → Rg 0 12 y18_l3 → ICx v (L 0 0) x0 y18_l2 y18_l3 → lv_has ls 4 [(0, .ref (b 0)), (1, .int x0), (2, .int y18_l2), (3, .int y18_l3)] → 12 - y18_l3.toInt < (n18 : Int) → W p l e (headSpec wsX12_isCritical ({ frames := 1, cells := 0, slots := 0, locals := 40 })).room s m ([.ref (b 0), .int x0]).toArray below meth c s.heap [] 0 0 (MQ below (vp_Si (fun r => Rg 0 1 r ∧ ((r ≠ 0 → CRT v (L 0 0) x0) ∧ (r = 0 → ¬ CRT v (L 0 0) x0)))) ([.ref (b 0), .int x0]).toArray s 0 0 (fun _ => False)) (F0 m 18 ls []) := by
    intro n18
    induction n18 with
    | zero =>
      intro y18_l2 y18_l3 ls g18_l1 g18_l2 g18_l3 x18_0 hl hm18
      exact absurd rfl (me_z g18_l3 hm18)
    | succ n18 ih18 =>
      intro y18_l2 y18_l3 ls g18_l1 g18_l2 g18_l3 x18_0 hl hm18
      refine lv_iload_n hx hb dX12_isCritical_18 rfl (lv_at hl 3 rfl) ?_
      refine lv_aload_n hx hb dX12_isCritical_19 rfl (lv_at hl 0 rfl) ?_
      refine va_get (D := D) (ci := 12) (v := .int (L 0 0)) (C := RX12) (T := TX12) (N := 24) hx hb hts hin12 hown hK hP 0 rfl rfl 0 (by decide) (hts (.fieldLink RX12 63 "MissedPointsModel" "many" "I") (by decide +kernel)) (fun _ h9 => h9) rfl dX12_isCritical_20 ?_
      refine lv_icmp_ge (tgt := 73) hx hb dX12_isCritical_23 (by decide) (fun c29030 => ?_) (fun c29030 => ?_)
      · refine lv_iload_n hx hb dX12_isCritical_73 rfl (lv_at hl 2 rfl) ?_
        exact W.zret (v := y18_l2) hx hb hr (wk_nb g18_l2) (fun t ht hW => ⟨_, rfl, ⟨g18_l2, (ic_5 x18_0 ((lz_le _ _).mp c29030))⟩, ht⟩) (fun q hq => absurd hq List.not_mem_nil) dX12_isCritical_74
      · have g29031 : Rg 1 12 (L 0 0) := rg_ltr g18_l3 hL.1 (rg_nle c29030) (by decide)
        have g29032 : Rg 0 11 y18_l3 := rg_ltl g18_l3 hL.1 (rg_nle c29030) (by decide)
        refine lv_iload_n hx hb dX12_isCritical_26 rfl (lv_at hl 2 rfl) ?_
        refine lv_if_eq (tgt := 65) hx hb dX12_isCritical_27 (by decide) (fun c29033 => ?_) (fun c29033 => ?_)
        · have g29034 : Rg 0 0 y18_l2 := wk_eql g18_l2 (by decide : Rg 0 0 (0 : Int32)) c29033 (by decide)
          refine lv_iconst (v := 0) hx hb dX12_isCritical_65 (by decide) ?_
          refine lv_istore_n (lv' := [(2, .int 0), (0, .ref (b 0)), (1, .int x0), (3, .int y18_l3)]) hx hb dX12_isCritical_66 rfl hl (by decide) rfl (fun ls hl => ?_)
          refine wk_iinc (lv' := fun r => [(3, .int r), (2, .int 0), (0, .ref (b 0)), (1, .int x0)]) (e1 := 1) (f := 12) hx hb dX12_isCritical_67 hl (k := 3) rfl (by decide) g29032 (by decide) (fun _ => rfl) (fun r29035 ls hr29035 er29035 hl => ?_)
          refine lv_goto (tgt := 18) hx hb dX12_isCritical_70 (by decide) ?_
          exact ih18 (0 : Int32) r29035 ls g18_l1 (by decide : Rg 0 1 (0 : Int32)) (show Rg 0 12 r29035 from rg_w hr29035 (by decide) (by decide)) (by exact ic_2 x18_0 c29033) (lv_sub (l' := [(0, .ref (b 0)), (1, .int x0), (2, .int 0), (3, .int r29035)]) hl [2, 3, 1, 0] rfl) (me_up hm18 er29035 (by decide))
        · have g29036 : Rg 1 1 y18_l2 := rg_ne_lo (k := 0) g18_l2 (by decide) c29033 (by decide)
          refine lv_iload_n hx hb dX12_isCritical_30 rfl (lv_at hl 1 rfl) ?_
          refine lv_iload_n hx hb dX12_isCritical_31 rfl (lv_at hl 3 rfl) ?_
          refine lz_ss (As := [.int x0, .int y18_l3]) (rest := []) ⟨hx, hb, hml, hown, hts⟩ (w_X12_has l D cI cS x0 y18_l3) hKK (hP.sub (ws' := []) [] rfl) (va_cwS 2 hts gX12_isCritical_X12_has rfl rfl rfl (by decide +kernel) ⟨Nat.le_of_ble_eq_true rfl, Nat.le_of_ble_eq_true rfl⟩) rfl hl.1 rfl (Nat.le_of_ble_eq_true rfl) dX12_isCritical_32 ⟨Nat.le_of_ble_eq_true rfl, Nat.le_of_ble_eq_true rfl⟩ (fun r29037 hr29037 => ?_)
          refine lv_if_eq (tgt := 61) hx hb dX12_isCritical_35 (by decide) (fun c29038 => ?_) (fun c29038 => ?_)
          · have g29039 : Rg 0 0 r29037 := wk_eql hr29037.1 (by decide : Rg 0 0 (0 : Int32)) c29038 (by decide)
            refine lv_iconst (v := 1) hx hb dX12_isCritical_61 (by decide) ?_
            refine lv_goto (tgt := 66) hx hb dX12_isCritical_62 (by decide) ?_
            refine lv_istore_n (lv' := [(2, .int 1), (0, .ref (b 0)), (1, .int x0), (3, .int y18_l3)]) hx hb dX12_isCritical_66 rfl hl (by decide) rfl (fun ls hl => ?_)
            refine wk_iinc (lv' := fun r => [(3, .int r), (2, .int 1), (0, .ref (b 0)), (1, .int x0)]) (e1 := 1) (f := 12) hx hb dX12_isCritical_67 hl (k := 3) rfl (by decide) g29032 (by decide) (fun _ => rfl) (fun r29040 ls hr29040 er29040 hl => ?_)
            refine lv_goto (tgt := 18) hx hb dX12_isCritical_70 (by decide) ?_
            exact ih18 (1 : Int32) r29040 ls g18_l1 (by decide : Rg 0 1 (1 : Int32)) (show Rg 0 12 r29040 from rg_w hr29040 (by decide) (by decide)) (by exact ic_3 x18_0 c29033 er29040 (fun z => absurd z (hr29037.2.2 c29038))) (lv_sub (l' := [(0, .ref (b 0)), (1, .int x0), (2, .int 1), (3, .int r29040)]) hl [2, 3, 1, 0] rfl) (me_up hm18 er29040 (by decide))
          · have g29041 : Rg 1 1 r29037 := rg_ne_lo (k := 0) hr29037.1 (by decide) c29038 (by decide)
            refine lv_iconst (v := 2) hx hb dX12_isCritical_38 (by decide) ?_
            refine lv_aload_n hx hb dX12_isCritical_39 rfl (lv_at hl 0 rfl) ?_
            refine va_get (D := D) (ci := 12) (v := .ref (b 2)) (C := RX12) (T := TX12) (N := 24) hx hb hts hin12 hown hK hP 0 rfl rfl 3 (by decide) (hts (.fieldLink RX12 17 "MissedPointsModel" "pairs" "[I") (by decide +kernel)) (fun _ h9 => h9) rfl dX12_isCritical_40 ?_
            refine lv_iload_n hx hb dX12_isCritical_43 rfl (lv_at hl 1 rfl) ?_
            refine lv_iconst (v := 1) hx hb dX12_isCritical_44 (by decide) ?_
            refine lv_iload_n hx hb dX12_isCritical_45 rfl (lv_at hl 3 rfl) ?_
            refine wk_ishl1 (f := 2048) hx hb dX12_isCritical_46 g29032 (by decide) (fun r29042 hr29042 qr29042 => ?_)
            refine lv_iconst (v := (-1)) hx hb dX12_isCritical_47 (by decide) ?_
            refine lv_ixor hx hb dX12_isCritical_48 ?_
            refine wk_topP (P := fun r => r = r29042 ^^^ ((-1) : Int32)) rfl (fun r29043 qr29043 => ?_)
            refine wk_iandl hx hb dX12_isCritical_49 g18_l1 (by decide) (fun r29044 hr29044 qr29044 => ?_)
            refine va_iald hx hb hK hP 2 0 rfl rfl (rg_in hr29044 (by decide) (by decide)) dX12_isCritical_50 ?_
            refine lz_top (y := (v 2 r29044.toNatClampNeg)) rfl ?_
            refine lv_imul hx hb dX12_isCritical_51 ?_
            refine wk_topP (P := fun r => r = (2 : Int32) * (v 2 r29044.toNatClampNeg)) rfl (fun r29046 qr29046 => ?_)
            refine lv_iload_n hx hb dX12_isCritical_52 rfl (lv_at hl 1 rfl) ?_
            refine lz_ss (As := [.int x0]) (rest := [.int r29046]) ⟨hx, hb, hml, hown, hts⟩ (w_X12_bits_E l D cI cS x0 g18_l1) hKK (hP.sub (ws' := []) [] rfl) (va_cwS 1 hts gX12_isCritical_X12_bits rfl rfl rfl (by decide +kernel) ⟨Nat.le_of_ble_eq_true rfl, Nat.le_of_ble_eq_true rfl⟩) rfl hl.1 rfl (Nat.le_of_ble_eq_true rfl) dX12_isCritical_53 ⟨Nat.le_of_ble_eq_true rfl, Nat.le_of_ble_eq_true rfl⟩ (fun r29047 hr29047 => ?_)
            refine lv_iconst (v := 1) hx hb dX12_isCritical_56 (by decide) ?_
            refine wk_isub (e1 := (-1)) (f := 11) hx hb dX12_isCritical_57 hr29047.1 (by decide : Rg 1 1 (1 : Int32)) (by decide) (fun r29048 hr29048 er29048 qr29048 => ?_)
            refine lv_icmp_ne (tgt := 65) hx hb dX12_isCritical_58 (by decide) (fun c29049 => ?_) (fun c29049 => ?_)
            · refine lv_iconst (v := 0) hx hb dX12_isCritical_65 (by decide) ?_
              refine lv_istore_n (lv' := [(2, .int 0), (0, .ref (b 0)), (1, .int x0), (3, .int y18_l3)]) hx hb dX12_isCritical_66 rfl hl (by decide) rfl (fun ls hl => ?_)
              refine wk_iinc (lv' := fun r => [(3, .int r), (2, .int 0), (0, .ref (b 0)), (1, .int x0)]) (e1 := 1) (f := 12) hx hb dX12_isCritical_67 hl (k := 3) rfl (by decide) g29032 (by decide) (fun _ => rfl) (fun r29050 ls hr29050 er29050 hl => ?_)
              refine lv_goto (tgt := 18) hx hb dX12_isCritical_70 (by decide) ?_
              exact ih18 (0 : Int32) r29050 ls g18_l1 (by decide : Rg 0 1 (0 : Int32)) (show Rg 0 12 r29050 from rg_w hr29050 (by decide) (by decide)) (by exact ic_4 (p := y18_l3) (show Rg 0 12 y18_l3 from rg_w g29032 (by decide) (by decide)).1 ((lz_lt _ _).mp (rg_nle c29030)) (hr29037.2.1 c29038) (fun z => c29049 (by rw [qr29046, qr29048, (show r29044 = rmI x0 y18_l3 from by rw [qr29044, qr29043, qr29042]; first | done | rfl), hr29047.2]; exact z))) (lv_sub (l' := [(0, .ref (b 0)), (1, .int x0), (2, .int 0), (3, .int r29050)]) hl [2, 3, 1, 0] rfl) (me_up hm18 er29050 (by decide))
            · have g29051 : Rg (-1) 11 r29046 := wk_eql (rg_any r29046) hr29048 c29049 (by decide)
              refine lv_iconst (v := 1) hx hb dX12_isCritical_61 (by decide) ?_
              refine lv_goto (tgt := 66) hx hb dX12_isCritical_62 (by decide) ?_
              refine lv_istore_n (lv' := [(2, .int 1), (0, .ref (b 0)), (1, .int x0), (3, .int y18_l3)]) hx hb dX12_isCritical_66 rfl hl (by decide) rfl (fun ls hl => ?_)
              refine wk_iinc (lv' := fun r => [(3, .int r), (2, .int 1), (0, .ref (b 0)), (1, .int x0)]) (e1 := 1) (f := 12) hx hb dX12_isCritical_67 hl (k := 3) rfl (by decide) g29032 (by decide) (fun _ => rfl) (fun r29052 ls hr29052 er29052 hl => ?_)
              refine lv_goto (tgt := 18) hx hb dX12_isCritical_70 (by decide) ?_
              exact ih18 (1 : Int32) r29052 ls g18_l1 (by decide : Rg 0 1 (1 : Int32)) (show Rg 0 12 r29052 from rg_w hr29052 (by decide) (by decide)) (by exact ic_3 x18_0 c29033 er29052 (fun _ => (by have z1 := c29049; rw [qr29046, qr29048, (show r29044 = rmI x0 y18_l3 from by rw [qr29044, qr29043, qr29042]; first | done | rfl), hr29047.2] at z1; exact z1))) (lv_sub (l' := [(0, .ref (b 0)), (1, .int x0), (2, .int 1), (3, .int r29052)]) hl [2, 3, 1, 0] rfl) (me_up hm18 er29052 (by decide))
  refine lv_iload_n hx hb dX12_isCritical_0 rfl (lv_at hl 1 rfl) ?_
  refine lz_ss (As := [.int x0]) (rest := []) ⟨hx, hb, hml, hown, hts⟩ (w_X12_bits_E l D cI cS x0 px0) hKK (hP.sub (ws' := []) [] rfl) (va_cwS 1 hts gX12_isCritical_X12_bits rfl rfl rfl (by decide +kernel) ⟨Nat.le_of_ble_eq_true rfl, Nat.le_of_ble_eq_true rfl⟩) rfl hl.1 rfl (Nat.le_of_ble_eq_true rfl) dX12_isCritical_1 ⟨Nat.le_of_ble_eq_true rfl, Nat.le_of_ble_eq_true rfl⟩ (fun r29053 hr29053 => ?_)
  refine lv_iconst (v := 2) hx hb dX12_isCritical_4 (by decide) ?_
  refine lv_irem hx hb dX12_isCritical_5 (by decide) ?_
  refine wk_topP (P := fun r => Rg 0 1 r ∧ r.toInt = r29053.toInt % 2) ⟨rg_remn hr29053.1 (by decide) (by decide), rg_remE hr29053.1.1 (by decide) (by decide)⟩ (fun r29054 hr29054 => ?_)
  refine lv_iconst (v := 1) hx hb dX12_isCritical_6 (by decide) ?_
  refine lv_icmp_ne (tgt := 14) hx hb dX12_isCritical_7 (by decide) (fun c29055 => ?_) (fun c29055 => ?_)
  · have g29056 : Rg 0 0 r29054 := rg_ne_hi (k := 1) hr29054.1 (by decide) c29055 (by decide)
    refine lv_iconst (v := 0) hx hb dX12_isCritical_14 (by decide) ?_
    refine lv_istore_n (lv' := [(2, .int 0), (0, .ref (b 0)), (1, .int x0)]) hx hb dX12_isCritical_15 rfl hl (by decide) rfl (fun ls hl => ?_)
    refine lv_iconst (v := 0) hx hb dX12_isCritical_16 (by decide) ?_
    refine lv_istore_n (lv' := [(3, .int 0), (2, .int 0), (0, .ref (b 0)), (1, .int x0)]) hx hb dX12_isCritical_17 rfl hl (by decide) rfl (fun ls hl => ?_)
    exact lp18 13 (0 : Int32) (0 : Int32) ls px0 (by decide : Rg 0 1 (0 : Int32)) (by decide : Rg 0 12 (0 : Int32)) (by exact ic_1 (fun z => c29055 (Int32.toInt_inj.mp (by have z1 := hr29054.2; rw [hr29053.2] at z1; have z3 : (1 : Int32).toInt = 1 := (by decide); omega)))) (lv_sub (l' := [(0, .ref (b 0)), (1, .int x0), (2, .int 0), (3, .int 0)]) hl [2, 3, 1, 0] rfl) (me_i (by decide : Rg 0 12 (0 : Int32)) (by decide))
  · have g29057 : Rg 1 1 r29054 := wk_eql hr29054.1 (by decide : Rg 1 1 (1 : Int32)) c29055 (by decide)
    refine lv_iconst (v := 1) hx hb dX12_isCritical_10 (by decide) ?_
    refine lv_goto (tgt := 15) hx hb dX12_isCritical_11 (by decide) ?_
    refine lv_istore_n (lv' := [(2, .int 1), (0, .ref (b 0)), (1, .int x0)]) hx hb dX12_isCritical_15 rfl hl (by decide) rfl (fun ls hl => ?_)
    refine lv_iconst (v := 0) hx hb dX12_isCritical_16 (by decide) ?_
    refine lv_istore_n (lv' := [(3, .int 0), (2, .int 1), (0, .ref (b 0)), (1, .int x0)]) hx hb dX12_isCritical_17 rfl hl (by decide) rfl (fun ls hl => ?_)
    exact lp18 13 (1 : Int32) (0 : Int32) ls px0 (by decide : Rg 0 1 (1 : Int32)) (by decide : Rg 0 12 (0 : Int32)) (by exact ic_0 (by have z1 := hr29054.2; rw [hr29053.2] at z1; have z2 := congrArg Int32.toInt c29055; have z3 : (1 : Int32).toInt = 1 := (by decide); omega) (by decide)) (lv_sub (l' := [(0, .ref (b 0)), (1, .int x0), (2, .int 1), (3, .int 0)]) hl [2, 3, 1, 0] rfl) (me_i (by decide : Rg 0 12 (0 : Int32)) (by decide))
set_option maxRecDepth 20000 in
theorem ggX12_earOf_X12_bits : GoodIn wsX12_earOf wsX12_bits := goodIn_r _ [5] (by decide +kernel) (by decide +kernel)
set_option maxRecDepth 20000 in
theorem gX12_earOf_X12_bits : GoodIn wsX12_earOf (va_wsS RX12 85 yX12_bits wsX12_bits) := goodIn_app (goodIn_of _ (by decide +kernel)) ggX12_earOf_X12_bits
set_option maxRecDepth 20000 in
theorem ggX12_earOf_X12_isCritical : GoodIn wsX12_earOf wsX12_isCritical := goodIn_r _ [9, 10, 1, 2, 3, 4, 5, 11, 12, 13, 14, 15, 16, 17, 18, 19, 20, 21, 22, 23, 24, 25, 26, 27, 28, 29, 30, 31, 32, 33, 34, 35, 36, 37] (by decide +kernel) (by decide +kernel)
set_option maxRecDepth 20000 in
theorem gX12_earOf_X12_isCritical : GoodIn wsX12_earOf (wsV RX12 144 RX12 yX12_isCritical wsX12_isCritical) := goodIn_app (goodIn_of _ (by decide +kernel)) ggX12_earOf_X12_isCritical
theorem dX12_earOf_0 : decode cX12_earOf 0 = .ok (.iload_n 1, 1) := by decide +kernel
theorem dX12_earOf_1 : decode cX12_earOf 1 = .ok (.iload_n 2, 1) := by decide +kernel
theorem dX12_earOf_10 : decode cX12_earOf 10 = .ok (.istore 5, 2) := by decide +kernel
theorem dX12_earOf_100 : decode cX12_earOf 100 = .ok (.istore 4, 2) := by decide +kernel
theorem dX12_earOf_102 : decode cX12_earOf 102 = .ok (.iinc 5 1, 3) := by decide +kernel
theorem dX12_earOf_105 : decode cX12_earOf 105 = .ok (.goto (-93), 3) := by decide +kernel
theorem dX12_earOf_108 : decode cX12_earOf 108 = .ok (.iload 4, 2) := by decide +kernel
theorem dX12_earOf_110 : decode cX12_earOf 110 = .ok (.ireturn, 1) := by decide +kernel
theorem dX12_earOf_12 : decode cX12_earOf 12 = .ok (.iload 5, 2) := by decide +kernel
theorem dX12_earOf_14 : decode cX12_earOf 14 = .ok (.iload_n 3, 1) := by decide +kernel
theorem dX12_earOf_15 : decode cX12_earOf 15 = .ok (.if_icmp .gt 93, 3) := by decide +kernel
theorem dX12_earOf_18 : decode cX12_earOf 18 = .ok (.iload 5, 2) := by decide +kernel
theorem dX12_earOf_2 : decode cX12_earOf 2 = .ok (.iconst (-1), 1) := by decide +kernel
theorem dX12_earOf_20 : decode cX12_earOf 20 = .ok (.iload_n 3, 1) := by decide +kernel
theorem dX12_earOf_21 : decode cX12_earOf 21 = .ok (.iconst (-1), 1) := by decide +kernel
theorem dX12_earOf_22 : decode cX12_earOf 22 = .ok (.ixor, 1) := by decide +kernel
theorem dX12_earOf_23 : decode cX12_earOf 23 = .ok (.iand, 1) := by decide +kernel
theorem dX12_earOf_24 : decode cX12_earOf 24 = .ok (.ifCond .ne 78, 3) := by decide +kernel
theorem dX12_earOf_27 : decode cX12_earOf 27 = .ok (.iload 5, 2) := by decide +kernel
theorem dX12_earOf_29 : decode cX12_earOf 29 = .ok (.invokestatic 85, 3) := by decide +kernel
theorem dX12_earOf_3 : decode cX12_earOf 3 = .ok (.ixor, 1) := by decide +kernel
theorem dX12_earOf_32 : decode cX12_earOf 32 = .ok (.iconst 2, 1) := by decide +kernel
theorem dX12_earOf_33 : decode cX12_earOf 33 = .ok (.if_icmp .lt 69, 3) := by decide +kernel
theorem dX12_earOf_36 : decode cX12_earOf 36 = .ok (.iload 4, 2) := by decide +kernel
theorem dX12_earOf_38 : decode cX12_earOf 38 = .ok (.ifCond .eq 19, 3) := by decide +kernel
theorem dX12_earOf_4 : decode cX12_earOf 4 = .ok (.iand, 1) := by decide +kernel
theorem dX12_earOf_41 : decode cX12_earOf 41 = .ok (.iload 5, 2) := by decide +kernel
theorem dX12_earOf_43 : decode cX12_earOf 43 = .ok (.invokestatic 85, 3) := by decide +kernel
theorem dX12_earOf_46 : decode cX12_earOf 46 = .ok (.iload 4, 2) := by decide +kernel
theorem dX12_earOf_48 : decode cX12_earOf 48 = .ok (.invokestatic 85, 3) := by decide +kernel
theorem dX12_earOf_5 : decode cX12_earOf 5 = .ok (.istore_n 3, 1) := by decide +kernel
theorem dX12_earOf_51 : decode cX12_earOf 51 = .ok (.if_icmp .lt 6, 3) := by decide +kernel
theorem dX12_earOf_54 : decode cX12_earOf 54 = .ok (.goto 48, 3) := by decide +kernel
theorem dX12_earOf_57 : decode cX12_earOf 57 = .ok (.aload_n 0, 1) := by decide +kernel
theorem dX12_earOf_58 : decode cX12_earOf 58 = .ok (.iload_n 2, 1) := by decide +kernel
theorem dX12_earOf_59 : decode cX12_earOf 59 = .ok (.iload 5, 2) := by decide +kernel
theorem dX12_earOf_6 : decode cX12_earOf 6 = .ok (.iconst 0, 1) := by decide +kernel
theorem dX12_earOf_61 : decode cX12_earOf 61 = .ok (.ior, 1) := by decide +kernel
theorem dX12_earOf_62 : decode cX12_earOf 62 = .ok (.invokevirtual 144, 3) := by decide +kernel
theorem dX12_earOf_65 : decode cX12_earOf 65 = .ok (.ifCond .eq 33, 3) := by decide +kernel
theorem dX12_earOf_68 : decode cX12_earOf 68 = .ok (.iconst 2, 1) := by decide +kernel
theorem dX12_earOf_69 : decode cX12_earOf 69 = .ok (.aload_n 0, 1) := by decide +kernel
theorem dX12_earOf_7 : decode cX12_earOf 7 = .ok (.istore 4, 2) := by decide +kernel
theorem dX12_earOf_70 : decode cX12_earOf 70 = .ok (.getfield 17, 3) := by decide +kernel
theorem dX12_earOf_73 : decode cX12_earOf 73 = .ok (.iload_n 3, 1) := by decide +kernel
theorem dX12_earOf_74 : decode cX12_earOf 74 = .ok (.iload 5, 2) := by decide +kernel
theorem dX12_earOf_76 : decode cX12_earOf 76 = .ok (.iconst (-1), 1) := by decide +kernel
theorem dX12_earOf_77 : decode cX12_earOf 77 = .ok (.ixor, 1) := by decide +kernel
theorem dX12_earOf_78 : decode cX12_earOf 78 = .ok (.iand, 1) := by decide +kernel
theorem dX12_earOf_79 : decode cX12_earOf 79 = .ok (.iaload, 1) := by decide +kernel
theorem dX12_earOf_80 : decode cX12_earOf 80 = .ok (.imul, 1) := by decide +kernel
theorem dX12_earOf_81 : decode cX12_earOf 81 = .ok (.iload_n 3, 1) := by decide +kernel
theorem dX12_earOf_82 : decode cX12_earOf 82 = .ok (.iload 5, 2) := by decide +kernel
theorem dX12_earOf_84 : decode cX12_earOf 84 = .ok (.iconst (-1), 1) := by decide +kernel
theorem dX12_earOf_85 : decode cX12_earOf 85 = .ok (.ixor, 1) := by decide +kernel
theorem dX12_earOf_86 : decode cX12_earOf 86 = .ok (.iand, 1) := by decide +kernel
theorem dX12_earOf_87 : decode cX12_earOf 87 = .ok (.invokestatic 85, 3) := by decide +kernel
theorem dX12_earOf_9 : decode cX12_earOf 9 = .ok (.iconst 1, 1) := by decide +kernel
theorem dX12_earOf_90 : decode cX12_earOf 90 = .ok (.if_icmp .ne 8, 3) := by decide +kernel
theorem dX12_earOf_93 : decode cX12_earOf 93 = .ok (.iload 5, 2) := by decide +kernel
theorem dX12_earOf_95 : decode cX12_earOf 95 = .ok (.goto 5, 3) := by decide +kernel
theorem dX12_earOf_98 : decode cX12_earOf 98 = .ok (.iload 4, 2) := by decide +kernel
set_option maxHeartbeats 4000000 in
set_option maxRecDepth 100000 in
theorem w_X12_earOf (l : Launch) (D : va_G) (cI cS : ClassId) (b : Nat → Nat) (L v : SU) (hL : TyL L) (hV : TyV v) (x0 x1 : Int32) (px0 : Rg 0 4095 x0) (px1 : Rg 0 4095 x1) : Met l yX12_earOf wsX12_earOf ({ frames := 2, cells := 0, slots := 0, locals := 80 }) (PS D cI cS (wM cI b L v) [.ref (b 0), .int x0, .int x1]) (vp_Si (fun r => Rg 0 4095 r ∧ ERp v (L 0 0) x0 x1 r)) 0 0 (fun _ => False) := by
  refine Met.ofW (cc := cX12_earOf) (maxL := 6) (ret := (some .int)) (by decide) rfl ?_
  intro p e s m args below meth c s₁ B hml hv
  obtain ⟨rfl, hP, hKK⟩ := hv
  have hx := B.exec
  have hb := B.bytes
  have hr := B.returns
  have hts := atoms_spec (ws := wsX12_earOf) B.pre
  have hown : s.vm.findClass RX12 = some m.cls := findClass_of_methodNamed B.named
  have hlocks := B.notSynchronized
  have hK := hKK.1
  have hin12 : ∀ w ∈ wsX120, w ∈ wsX12_earOf := by decide +kernel
  have hl := lv_entry ([.ref (b 0), .int x0, .int x1]) (n := 6) (Nat.le_of_ble_eq_true rfl)
  rw [lg_entry_eq]
  generalize (lg_sl ([.ref (b 0), .int x0, .int x1]) ++ List.replicate (6 - (lg_sl ([.ref (b 0), .int x0, .int x1])).length) Slot.unset).toArray = ls at hl ⊢
  have hl : lv_has ls 6 [(0, .ref (b 0)), (1, .int x0), (2, .int x1)] := hl
  have lp12 : ∀ (n12 : Nat) (y12_l3 : Int32) (y12_l4 : Int32) (y12_l5 : Int32) (ls : Array Slot), Rg 0 4095 x1 → Rg 0 4095 y12_l3 → Rg 0 4095 y12_l4 → Rg 1 4096 y12_l5 → (y12_l3 = x0 &&& (x1 ^^^ (-1)) ∧ EX v (L 0 0) x1 y12_l3 y12_l4 y12_l5) → lv_has ls 6 [(0, .ref (b 0)), (2, .int x1), (3, .int y12_l3), (4, .int y12_l4), (5, .int y12_l5)] → 4096 - y12_l5.toInt < (n12 : Int) → W p l e (headSpec wsX12_earOf ({ frames := 2, cells := 0, slots := 0, locals := 80 })).room s m ([.ref (b 0), .int x0, .int x1]).toArray below meth c s.heap [] 0 0 (MQ below (vp_Si (fun r => Rg 0 4095 r ∧ ERp v (L 0 0) x0 x1 r)) ([.ref (b 0), .int x0, .int x1]).toArray s 0 0 (fun _ => False)) (F0 m 12 ls []) := by
    intro n12
    induction n12 with
    | zero =>
      intro y12_l3 y12_l4 y12_l5 ls g12_l2 g12_l3 g12_l4 g12_l5 x12_0 hl hm12
      exact absurd rfl (me_z g12_l5 hm12)
    | succ n12 ih12 =>
      intro y12_l3 y12_l4 y12_l5 ls g12_l2 g12_l3 g12_l4 g12_l5 x12_0 hl hm12
      refine lv_iload hx hb dX12_earOf_12 (lv_at hl 4 rfl) ?_
      refine lv_iload_n hx hb dX12_earOf_14 rfl (lv_at hl 2 rfl) ?_
      refine lv_icmp_gt (tgt := 108) hx hb dX12_earOf_15 (by decide) (fun c30223 => ?_) (fun c30223 => ?_)
      · refine lv_iload hx hb dX12_earOf_108 (lv_at hl 3 rfl) ?_
        exact W.iret (v := y12_l4) hx hb hr (fun t ht hW => ⟨_, rfl, ⟨g12_l4, (by have z1 := x12_0.2; have z2 := (lz_lt _ _).mp c30223; rw [x12_0.1] at z1 z2; exact ⟨z1.1, fun a => z1.2 z2 a⟩)⟩, ht⟩) (fun q hq => absurd hq List.not_mem_nil) dX12_earOf_110
      · have g30224 : Rg 1 4095 y12_l3 := rg_ler g12_l5 g12_l3 (rg_nlt c30223) (by decide)
        have g30225 : Rg 1 4095 y12_l5 := rg_lel g12_l5 g12_l3 (rg_nlt c30223) (by decide)
        refine lv_iload hx hb dX12_earOf_18 (lv_at hl 4 rfl) ?_
        refine lv_iload_n hx hb dX12_earOf_20 rfl (lv_at hl 2 rfl) ?_
        refine lv_iconst (v := (-1)) hx hb dX12_earOf_21 (by decide) ?_
        refine lv_ixor hx hb dX12_earOf_22 ?_
        refine wk_topP (P := fun r => r = y12_l3 ^^^ ((-1) : Int32)) rfl (fun r30226 qr30226 => ?_)
        refine wk_iandl hx hb dX12_earOf_23 g30225 (by decide) (fun r30227 hr30227 qr30227 => ?_)
        refine lv_if_ne (tgt := 102) hx hb dX12_earOf_24 (by decide) (fun c30228 => ?_) (fun c30228 => ?_)
        · have g30229 : Rg 1 4095 r30227 := rg_ne_lo (k := 0) hr30227 (by decide) c30228 (by decide)
          refine wk_iinc (lv' := fun r => [(5, .int r), (0, .ref (b 0)), (2, .int x1), (3, .int y12_l3), (4, .int y12_l4)]) (e1 := 2) (f := 4096) hx hb dX12_earOf_102 hl (k := 4) rfl (by decide) g30225 (by decide) (fun _ => rfl) (fun r30230 ls hr30230 er30230 hl => ?_)
          refine lv_goto (tgt := 12) hx hb dX12_earOf_105 (by decide) ?_
          exact ih12 y12_l3 y12_l4 r30230 ls g12_l2 (show Rg 0 4095 y12_l3 from rg_w g30224 (by decide) (by decide)) g12_l4 (show Rg 1 4096 r30230 from rg_w hr30230 (by decide) (by decide)) (by exact ⟨x12_0.1, ex_1 x12_0.2 er30230 (fun z => absurd (by rw [qr30227, qr30226, ← z]; exact bit_s _) c30228)⟩) (lv_sub (l' := [(0, .ref (b 0)), (2, .int x1), (3, .int y12_l3), (4, .int y12_l4), (5, .int r30230)]) hl [1, 2, 3, 4, 0] rfl) (me_up hm12 er30230 (by decide))
        · have g30231 : Rg 0 0 r30227 := wk_eql hr30227 (by decide : Rg 0 0 (0 : Int32)) c30228 (by decide)
          refine lv_iload hx hb dX12_earOf_27 (lv_at hl 4 rfl) ?_
          refine lz_ss (As := [.int y12_l5]) (rest := []) ⟨hx, hb, hml, hown, hts⟩ (w_X12_bits_E l D cI cS y12_l5 (show Rg 0 4095 y12_l5 from rg_w g30225 (by decide) (by decide))) hKK (hP.sub (ws' := []) [] rfl) (va_cwS 1 hts gX12_earOf_X12_bits rfl rfl rfl (by decide +kernel) ⟨Nat.le_of_ble_eq_true rfl, Nat.le_of_ble_eq_true rfl⟩) rfl hl.1 rfl (Nat.le_of_ble_eq_true rfl) dX12_earOf_29 ⟨Nat.le_of_ble_eq_true rfl, Nat.le_of_ble_eq_true rfl⟩ (fun r30232 hr30232 => ?_)
          refine lv_iconst (v := 2) hx hb dX12_earOf_32 (by decide) ?_
          refine lv_icmp_lt (tgt := 102) hx hb dX12_earOf_33 (by decide) (fun c30233 => ?_) (fun c30233 => ?_)
          · have g30234 : Rg 0 1 r30232 := rg_ltl hr30232.1 (by decide : Rg 2 2 (2 : Int32)) c30233 (by decide)
            refine wk_iinc (lv' := fun r => [(5, .int r), (0, .ref (b 0)), (2, .int x1), (3, .int y12_l3), (4, .int y12_l4)]) (e1 := 2) (f := 4096) hx hb dX12_earOf_102 hl (k := 4) rfl (by decide) g30225 (by decide) (fun _ => rfl) (fun r30235 ls hr30235 er30235 hl => ?_)
            refine lv_goto (tgt := 12) hx hb dX12_earOf_105 (by decide) ?_
            exact ih12 y12_l3 y12_l4 r30235 ls g12_l2 (show Rg 0 4095 y12_l3 from rg_w g30224 (by decide) (by decide)) g12_l4 (show Rg 1 4096 r30235 from rg_w hr30235 (by decide) (by decide)) (by exact ⟨x12_0.1, ex_1 x12_0.2 er30235 (fun z h0 _ w _ => absurd (whl_2 w (rg_ne_lo (k := 0) g12_l3 (by decide) h0 (by decide))) (by have z1 := (lz_lt _ _).mp c30233; have z2 : (2 : Int32).toInt = 2 := (by decide); rw [hr30232.2] at z1; rw [z]; omega))⟩) (lv_sub (l' := [(0, .ref (b 0)), (2, .int x1), (3, .int y12_l3), (4, .int y12_l4), (5, .int r30235)]) hl [1, 2, 3, 4, 0] rfl) (me_up hm12 er30235 (by decide))
          · have g30236 : Rg 2 12 r30232 := rg_ler (by decide : Rg 2 2 (2 : Int32)) hr30232.1 (rg_nlt c30233) (by decide)
            refine lv_iload hx hb dX12_earOf_36 (lv_at hl 3 rfl) ?_
            refine lv_if_eq (tgt := 57) hx hb dX12_earOf_38 (by decide) (fun c30237 => ?_) (fun c30237 => ?_)
            · have g30238 : Rg 0 0 y12_l4 := wk_eql g12_l4 (by decide : Rg 0 0 (0 : Int32)) c30237 (by decide)
              refine lv_aload_n hx hb dX12_earOf_57 rfl (lv_at hl 0 rfl) ?_
              refine lv_iload_n hx hb dX12_earOf_58 rfl (lv_at hl 1 rfl) ?_
              refine lv_iload hx hb dX12_earOf_59 (lv_at hl 4 rfl) ?_
              refine wk_ior 12 (e1 := 1) (f := 4095) hx hb dX12_earOf_61 g12_l2 g30225 (by decide) (fun r30239 hr30239 qr30239 => ?_)
              refine wk_sv 0 (As := [.int r30239]) (rest := []) ⟨hx, hb, hml, hown, hts⟩ (w_X12_isCritical_E l D cI cS b L v hL hV r30239 (show Rg 0 4095 r30239 from rg_w hr30239 (by decide) (by decide))) hKK hP (ci := 12) rfl rfl (cwV 1 hts gX12_earOf_X12_isCritical rfl rfl rfl (by decide +kernel) ⟨Nat.le_of_ble_eq_true rfl, Nat.le_of_ble_eq_true rfl⟩) rfl hl.1 rfl (Nat.le_of_ble_eq_true rfl) dX12_earOf_62 ⟨Nat.le_of_ble_eq_true rfl, Nat.le_of_ble_eq_true rfl⟩ (fun r30240 hr30240 => ?_)
              refine lv_if_eq (tgt := 98) hx hb dX12_earOf_65 (by decide) (fun c30241 => ?_) (fun c30241 => ?_)
              · have g30242 : Rg 0 0 r30240 := wk_eql hr30240.1 (by decide : Rg 0 0 (0 : Int32)) c30241 (by decide)
                refine lv_iload hx hb dX12_earOf_98 (lv_at hl 3 rfl) ?_
                refine lv_istore (lv' := [(4, .int y12_l4), (0, .ref (b 0)), (2, .int x1), (3, .int y12_l3), (5, .int y12_l5)]) hx hb dX12_earOf_100 hl (by decide) rfl (fun ls hl => ?_)
                refine wk_iinc (lv' := fun r => [(5, .int r), (4, .int y12_l4), (0, .ref (b 0)), (2, .int x1), (3, .int y12_l3)]) (e1 := 2) (f := 4096) hx hb dX12_earOf_102 hl (k := 4) rfl (by decide) g30225 (by decide) (fun _ => rfl) (fun r30243 ls hr30243 er30243 hl => ?_)
                refine lv_goto (tgt := 12) hx hb dX12_earOf_105 (by decide) ?_
                exact ih12 y12_l3 y12_l4 r30243 ls g12_l2 (show Rg 0 4095 y12_l3 from rg_w g30224 (by decide) (by decide)) (show Rg 0 4095 y12_l4 from rg_w g30238 (by decide) (by decide)) (show Rg 1 4096 r30243 from rg_w hr30243 (by decide) (by decide)) (by exact ⟨x12_0.1, ex_1 x12_0.2 er30243 (fun z _ c _ _ => absurd (by rw [qr30239, ← z]; exact c) (hr30240.2.2 c30241))⟩) (lv_sub (l' := [(0, .ref (b 0)), (2, .int x1), (3, .int y12_l3), (4, .int y12_l4), (5, .int r30243)]) hl [2, 3, 4, 1, 0] rfl) (me_up hm12 er30243 (by decide))
              · have g30244 : Rg 1 1 r30240 := rg_ne_lo (k := 0) hr30240.1 (by decide) c30241 (by decide)
                refine lv_iconst (v := 2) hx hb dX12_earOf_68 (by decide) ?_
                refine lv_aload_n hx hb dX12_earOf_69 rfl (lv_at hl 0 rfl) ?_
                refine va_get (D := D) (ci := 12) (v := .ref (b 2)) (C := RX12) (T := TX12) (N := 24) hx hb hts hin12 hown hK hP 0 rfl rfl 3 (by decide) (hts (.fieldLink RX12 17 "MissedPointsModel" "pairs" "[I") (by decide +kernel)) (fun _ h9 => h9) rfl dX12_earOf_70 ?_
                refine lv_iload_n hx hb dX12_earOf_73 rfl (lv_at hl 2 rfl) ?_
                refine lv_iload hx hb dX12_earOf_74 (lv_at hl 4 rfl) ?_
                refine lv_iconst (v := (-1)) hx hb dX12_earOf_76 (by decide) ?_
                refine lv_ixor hx hb dX12_earOf_77 ?_
                refine wk_topP (P := fun r => r = y12_l5 ^^^ ((-1) : Int32)) rfl (fun r30245 qr30245 => ?_)
                refine wk_iandl hx hb dX12_earOf_78 g30224 (by decide) (fun r30246 hr30246 qr30246 => ?_)
                refine va_iald hx hb hK hP 2 0 rfl rfl (rg_in hr30246 (by decide) (by decide)) dX12_earOf_79 ?_
                refine lz_top (y := (v 2 r30246.toNatClampNeg)) rfl ?_
                refine lv_imul hx hb dX12_earOf_80 ?_
                refine wk_topP (P := fun r => r = (2 : Int32) * (v 2 r30246.toNatClampNeg)) rfl (fun r30248 qr30248 => ?_)
                refine lv_iload_n hx hb dX12_earOf_81 rfl (lv_at hl 2 rfl) ?_
                refine lv_iload hx hb dX12_earOf_82 (lv_at hl 4 rfl) ?_
                refine lv_iconst (v := (-1)) hx hb dX12_earOf_84 (by decide) ?_
                refine lv_ixor hx hb dX12_earOf_85 ?_
                refine wk_topP (P := fun r => r = y12_l5 ^^^ ((-1) : Int32)) rfl (fun r30249 qr30249 => ?_)
                refine wk_iandl hx hb dX12_earOf_86 g30224 (by decide) (fun r30250 hr30250 qr30250 => ?_)
                refine lz_ss (As := [.int r30250]) (rest := [.int r30248]) ⟨hx, hb, hml, hown, hts⟩ (w_X12_bits_E l D cI cS r30250 hr30250) hKK (hP.sub (ws' := []) [] rfl) (va_cwS 1 hts gX12_earOf_X12_bits rfl rfl rfl (by decide +kernel) ⟨Nat.le_of_ble_eq_true rfl, Nat.le_of_ble_eq_true rfl⟩) rfl hl.1 rfl (Nat.le_of_ble_eq_true rfl) dX12_earOf_87 ⟨Nat.le_of_ble_eq_true rfl, Nat.le_of_ble_eq_true rfl⟩ (fun r30251 hr30251 => ?_)
                refine lv_icmp_ne (tgt := 98) hx hb dX12_earOf_90 (by decide) (fun c30252 => ?_) (fun c30252 => ?_)
                · refine lv_iload hx hb dX12_earOf_98 (lv_at hl 3 rfl) ?_
                  refine lv_istore (lv' := [(4, .int y12_l4), (0, .ref (b 0)), (2, .int x1), (3, .int y12_l3), (5, .int y12_l5)]) hx hb dX12_earOf_100 hl (by decide) rfl (fun ls hl => ?_)
                  refine wk_iinc (lv' := fun r => [(5, .int r), (4, .int y12_l4), (0, .ref (b 0)), (2, .int x1), (3, .int y12_l3)]) (e1 := 2) (f := 4096) hx hb dX12_earOf_102 hl (k := 4) rfl (by decide) g30225 (by decide) (fun _ => rfl) (fun r30253 ls hr30253 er30253 hl => ?_)
                  refine lv_goto (tgt := 12) hx hb dX12_earOf_105 (by decide) ?_
                  exact ih12 y12_l3 y12_l4 r30253 ls g12_l2 (show Rg 0 4095 y12_l3 from rg_w g30224 (by decide) (by decide)) (show Rg 0 4095 y12_l4 from rg_w g30238 (by decide) (by decide)) (show Rg 1 4096 r30253 from rg_w hr30253 (by decide) (by decide)) (by exact ⟨x12_0.1, ex_1 x12_0.2 er30253 (fun z _ _ _ w => absurd w (fun w2 => c30252 (by rw [qr30248, (show r30246 = y12_l3 &&& (y12_l5 ^^^ (-1)) from by rw [qr30246, qr30245]), hr30251.2, (show r30250 = y12_l3 &&& (y12_l5 ^^^ (-1)) from by rw [qr30250, qr30249]), show y12_l3 &&& (y12_l5 ^^^ (-1)) = 0 from by rw [← z]; exact bit_s _]; exact w2)))⟩) (lv_sub (l' := [(0, .ref (b 0)), (2, .int x1), (3, .int y12_l3), (4, .int y12_l4), (5, .int r30253)]) hl [2, 3, 4, 1, 0] rfl) (me_up hm12 er30253 (by decide))
                · have g30254 : Rg 0 12 r30248 := wk_eql (rg_any r30248) hr30251.1 c30252 (by decide)
                  refine lv_iload hx hb dX12_earOf_93 (lv_at hl 4 rfl) ?_
                  refine lv_goto (tgt := 100) hx hb dX12_earOf_95 (by decide) ?_
                  refine lv_istore (lv' := [(4, .int y12_l5), (0, .ref (b 0)), (2, .int x1), (3, .int y12_l3), (5, .int y12_l5)]) hx hb dX12_earOf_100 hl (by decide) rfl (fun ls hl => ?_)
                  refine wk_iinc (lv' := fun r => [(5, .int r), (4, .int y12_l5), (0, .ref (b 0)), (2, .int x1), (3, .int y12_l3)]) (e1 := 2) (f := 4096) hx hb dX12_earOf_102 hl (k := 4) rfl (by decide) g30225 (by decide) (fun _ => rfl) (fun r30255 ls hr30255 er30255 hl => ?_)
                  refine lv_goto (tgt := 12) hx hb dX12_earOf_105 (by decide) ?_
                  exact ih12 y12_l3 y12_l5 r30255 ls g12_l2 (show Rg 0 4095 y12_l3 from rg_w g30224 (by decide) (by decide)) (show Rg 0 4095 y12_l5 from rg_w g30225 (by decide) (by decide)) (show Rg 1 4096 r30255 from rg_w hr30255 (by decide) (by decide)) (by exact ⟨x12_0.1, ex_2 g30225 (by rw [← qr30226, ← qr30227]; exact c30228) (by have z1 := c30252; rw [qr30248, (show r30246 = y12_l3 &&& (y12_l5 ^^^ (-1)) from by rw [qr30246, qr30245]), hr30251.2, (show r30250 = y12_l3 &&& (y12_l5 ^^^ (-1)) from by rw [qr30250, qr30249])] at z1; exact z1)⟩) (lv_sub (l' := [(0, .ref (b 0)), (2, .int x1), (3, .int y12_l3), (4, .int y12_l5), (5, .int r30255)]) hl [2, 3, 4, 1, 0] rfl) (me_up hm12 er30255 (by decide))
            · have g30256 : Rg 1 4095 y12_l4 := rg_ne_lo (k := 0) g12_l4 (by decide) c30237 (by decide)
              refine lv_iload hx hb dX12_earOf_41 (lv_at hl 4 rfl) ?_
              refine lz_ss (As := [.int y12_l5]) (rest := []) ⟨hx, hb, hml, hown, hts⟩ (w_X12_bits_E l D cI cS y12_l5 (show Rg 0 4095 y12_l5 from rg_w g30225 (by decide) (by decide))) hKK (hP.sub (ws' := []) [] rfl) (va_cwS 1 hts gX12_earOf_X12_bits rfl rfl rfl (by decide +kernel) ⟨Nat.le_of_ble_eq_true rfl, Nat.le_of_ble_eq_true rfl⟩) rfl hl.1 rfl (Nat.le_of_ble_eq_true rfl) dX12_earOf_43 ⟨Nat.le_of_ble_eq_true rfl, Nat.le_of_ble_eq_true rfl⟩ (fun r30257 hr30257 => ?_)
              refine lv_iload hx hb dX12_earOf_46 (lv_at hl 3 rfl) ?_
              refine lz_ss (As := [.int y12_l4]) (rest := [.int r30257]) ⟨hx, hb, hml, hown, hts⟩ (w_X12_bits_E l D cI cS y12_l4 (show Rg 0 4095 y12_l4 from rg_w g30256 (by decide) (by decide))) hKK (hP.sub (ws' := []) [] rfl) (va_cwS 1 hts gX12_earOf_X12_bits rfl rfl rfl (by decide +kernel) ⟨Nat.le_of_ble_eq_true rfl, Nat.le_of_ble_eq_true rfl⟩) rfl hl.1 rfl (Nat.le_of_ble_eq_true rfl) dX12_earOf_48 ⟨Nat.le_of_ble_eq_true rfl, Nat.le_of_ble_eq_true rfl⟩ (fun r30258 hr30258 => ?_)
              refine lv_icmp_lt (tgt := 57) hx hb dX12_earOf_51 (by decide) (fun c30259 => ?_) (fun c30259 => ?_)
              · have g30260 : Rg 0 11 r30257 := rg_ltl hr30257.1 hr30258.1 c30259 (by decide)
                have g30261 : Rg 1 12 r30258 := rg_ltr hr30257.1 hr30258.1 c30259 (by decide)
                refine lv_aload_n hx hb dX12_earOf_57 rfl (lv_at hl 0 rfl) ?_
                refine lv_iload_n hx hb dX12_earOf_58 rfl (lv_at hl 1 rfl) ?_
                refine lv_iload hx hb dX12_earOf_59 (lv_at hl 4 rfl) ?_
                refine wk_ior 12 (e1 := 1) (f := 4095) hx hb dX12_earOf_61 g12_l2 g30225 (by decide) (fun r30262 hr30262 qr30262 => ?_)
                refine wk_sv 0 (As := [.int r30262]) (rest := []) ⟨hx, hb, hml, hown, hts⟩ (w_X12_isCritical_E l D cI cS b L v hL hV r30262 (show Rg 0 4095 r30262 from rg_w hr30262 (by decide) (by decide))) hKK hP (ci := 12) rfl rfl (cwV 1 hts gX12_earOf_X12_isCritical rfl rfl rfl (by decide +kernel) ⟨Nat.le_of_ble_eq_true rfl, Nat.le_of_ble_eq_true rfl⟩) rfl hl.1 rfl (Nat.le_of_ble_eq_true rfl) dX12_earOf_62 ⟨Nat.le_of_ble_eq_true rfl, Nat.le_of_ble_eq_true rfl⟩ (fun r30263 hr30263 => ?_)
                refine lv_if_eq (tgt := 98) hx hb dX12_earOf_65 (by decide) (fun c30264 => ?_) (fun c30264 => ?_)
                · have g30265 : Rg 0 0 r30263 := wk_eql hr30263.1 (by decide : Rg 0 0 (0 : Int32)) c30264 (by decide)
                  refine lv_iload hx hb dX12_earOf_98 (lv_at hl 3 rfl) ?_
                  refine lv_istore (lv' := [(4, .int y12_l4), (0, .ref (b 0)), (2, .int x1), (3, .int y12_l3), (5, .int y12_l5)]) hx hb dX12_earOf_100 hl (by decide) rfl (fun ls hl => ?_)
                  refine wk_iinc (lv' := fun r => [(5, .int r), (4, .int y12_l4), (0, .ref (b 0)), (2, .int x1), (3, .int y12_l3)]) (e1 := 2) (f := 4096) hx hb dX12_earOf_102 hl (k := 4) rfl (by decide) g30225 (by decide) (fun _ => rfl) (fun r30266 ls hr30266 er30266 hl => ?_)
                  refine lv_goto (tgt := 12) hx hb dX12_earOf_105 (by decide) ?_
                  exact ih12 y12_l3 y12_l4 r30266 ls g12_l2 (show Rg 0 4095 y12_l3 from rg_w g30224 (by decide) (by decide)) (show Rg 0 4095 y12_l4 from rg_w g30256 (by decide) (by decide)) (show Rg 1 4096 r30266 from rg_w hr30266 (by decide) (by decide)) (by exact ⟨x12_0.1, ex_1 x12_0.2 er30266 (fun z _ c _ _ => absurd (by rw [qr30262, ← z]; exact c) (hr30263.2.2 c30264))⟩) (lv_sub (l' := [(0, .ref (b 0)), (2, .int x1), (3, .int y12_l3), (4, .int y12_l4), (5, .int r30266)]) hl [2, 3, 4, 1, 0] rfl) (me_up hm12 er30266 (by decide))
                · have g30267 : Rg 1 1 r30263 := rg_ne_lo (k := 0) hr30263.1 (by decide) c30264 (by decide)
                  refine lv_iconst (v := 2) hx hb dX12_earOf_68 (by decide) ?_
                  refine lv_aload_n hx hb dX12_earOf_69 rfl (lv_at hl 0 rfl) ?_
                  refine va_get (D := D) (ci := 12) (v := .ref (b 2)) (C := RX12) (T := TX12) (N := 24) hx hb hts hin12 hown hK hP 0 rfl rfl 3 (by decide) (hts (.fieldLink RX12 17 "MissedPointsModel" "pairs" "[I") (by decide +kernel)) (fun _ h9 => h9) rfl dX12_earOf_70 ?_
                  refine lv_iload_n hx hb dX12_earOf_73 rfl (lv_at hl 2 rfl) ?_
                  refine lv_iload hx hb dX12_earOf_74 (lv_at hl 4 rfl) ?_
                  refine lv_iconst (v := (-1)) hx hb dX12_earOf_76 (by decide) ?_
                  refine lv_ixor hx hb dX12_earOf_77 ?_
                  refine wk_topP (P := fun r => r = y12_l5 ^^^ ((-1) : Int32)) rfl (fun r30268 qr30268 => ?_)
                  refine wk_iandl hx hb dX12_earOf_78 g30224 (by decide) (fun r30269 hr30269 qr30269 => ?_)
                  refine va_iald hx hb hK hP 2 0 rfl rfl (rg_in hr30269 (by decide) (by decide)) dX12_earOf_79 ?_
                  refine lz_top (y := (v 2 r30269.toNatClampNeg)) rfl ?_
                  refine lv_imul hx hb dX12_earOf_80 ?_
                  refine wk_topP (P := fun r => r = (2 : Int32) * (v 2 r30269.toNatClampNeg)) rfl (fun r30271 qr30271 => ?_)
                  refine lv_iload_n hx hb dX12_earOf_81 rfl (lv_at hl 2 rfl) ?_
                  refine lv_iload hx hb dX12_earOf_82 (lv_at hl 4 rfl) ?_
                  refine lv_iconst (v := (-1)) hx hb dX12_earOf_84 (by decide) ?_
                  refine lv_ixor hx hb dX12_earOf_85 ?_
                  refine wk_topP (P := fun r => r = y12_l5 ^^^ ((-1) : Int32)) rfl (fun r30272 qr30272 => ?_)
                  refine wk_iandl hx hb dX12_earOf_86 g30224 (by decide) (fun r30273 hr30273 qr30273 => ?_)
                  refine lz_ss (As := [.int r30273]) (rest := [.int r30271]) ⟨hx, hb, hml, hown, hts⟩ (w_X12_bits_E l D cI cS r30273 hr30273) hKK (hP.sub (ws' := []) [] rfl) (va_cwS 1 hts gX12_earOf_X12_bits rfl rfl rfl (by decide +kernel) ⟨Nat.le_of_ble_eq_true rfl, Nat.le_of_ble_eq_true rfl⟩) rfl hl.1 rfl (Nat.le_of_ble_eq_true rfl) dX12_earOf_87 ⟨Nat.le_of_ble_eq_true rfl, Nat.le_of_ble_eq_true rfl⟩ (fun r30274 hr30274 => ?_)
                  refine lv_icmp_ne (tgt := 98) hx hb dX12_earOf_90 (by decide) (fun c30275 => ?_) (fun c30275 => ?_)
                  · refine lv_iload hx hb dX12_earOf_98 (lv_at hl 3 rfl) ?_
                    refine lv_istore (lv' := [(4, .int y12_l4), (0, .ref (b 0)), (2, .int x1), (3, .int y12_l3), (5, .int y12_l5)]) hx hb dX12_earOf_100 hl (by decide) rfl (fun ls hl => ?_)
                    refine wk_iinc (lv' := fun r => [(5, .int r), (4, .int y12_l4), (0, .ref (b 0)), (2, .int x1), (3, .int y12_l3)]) (e1 := 2) (f := 4096) hx hb dX12_earOf_102 hl (k := 4) rfl (by decide) g30225 (by decide) (fun _ => rfl) (fun r30276 ls hr30276 er30276 hl => ?_)
                    refine lv_goto (tgt := 12) hx hb dX12_earOf_105 (by decide) ?_
                    exact ih12 y12_l3 y12_l4 r30276 ls g12_l2 (show Rg 0 4095 y12_l3 from rg_w g30224 (by decide) (by decide)) (show Rg 0 4095 y12_l4 from rg_w g30256 (by decide) (by decide)) (show Rg 1 4096 r30276 from rg_w hr30276 (by decide) (by decide)) (by exact ⟨x12_0.1, ex_1 x12_0.2 er30276 (fun z _ _ _ w => absurd w (fun w2 => c30275 (by rw [qr30271, (show r30269 = y12_l3 &&& (y12_l5 ^^^ (-1)) from by rw [qr30269, qr30268]), hr30274.2, (show r30273 = y12_l3 &&& (y12_l5 ^^^ (-1)) from by rw [qr30273, qr30272]), show y12_l3 &&& (y12_l5 ^^^ (-1)) = 0 from by rw [← z]; exact bit_s _]; exact w2)))⟩) (lv_sub (l' := [(0, .ref (b 0)), (2, .int x1), (3, .int y12_l3), (4, .int y12_l4), (5, .int r30276)]) hl [2, 3, 4, 1, 0] rfl) (me_up hm12 er30276 (by decide))
                  · have g30277 : Rg 0 12 r30271 := wk_eql (rg_any r30271) hr30274.1 c30275 (by decide)
                    refine lv_iload hx hb dX12_earOf_93 (lv_at hl 4 rfl) ?_
                    refine lv_goto (tgt := 100) hx hb dX12_earOf_95 (by decide) ?_
                    refine lv_istore (lv' := [(4, .int y12_l5), (0, .ref (b 0)), (2, .int x1), (3, .int y12_l3), (5, .int y12_l5)]) hx hb dX12_earOf_100 hl (by decide) rfl (fun ls hl => ?_)
                    refine wk_iinc (lv' := fun r => [(5, .int r), (4, .int y12_l5), (0, .ref (b 0)), (2, .int x1), (3, .int y12_l3)]) (e1 := 2) (f := 4096) hx hb dX12_earOf_102 hl (k := 4) rfl (by decide) g30225 (by decide) (fun _ => rfl) (fun r30278 ls hr30278 er30278 hl => ?_)
                    refine lv_goto (tgt := 12) hx hb dX12_earOf_105 (by decide) ?_
                    exact ih12 y12_l3 y12_l5 r30278 ls g12_l2 (show Rg 0 4095 y12_l3 from rg_w g30224 (by decide) (by decide)) (show Rg 0 4095 y12_l5 from rg_w g30225 (by decide) (by decide)) (show Rg 1 4096 r30278 from rg_w hr30278 (by decide) (by decide)) (by exact ⟨x12_0.1, ex_2 g30225 (by rw [← qr30226, ← qr30227]; exact c30228) (by have z1 := c30275; rw [qr30271, (show r30269 = y12_l3 &&& (y12_l5 ^^^ (-1)) from by rw [qr30269, qr30268]), hr30274.2, (show r30273 = y12_l3 &&& (y12_l5 ^^^ (-1)) from by rw [qr30273, qr30272])] at z1; exact z1)⟩) (lv_sub (l' := [(0, .ref (b 0)), (2, .int x1), (3, .int y12_l3), (4, .int y12_l5), (5, .int r30278)]) hl [2, 3, 4, 1, 0] rfl) (me_up hm12 er30278 (by decide))
              · refine lv_goto (tgt := 102) hx hb dX12_earOf_54 (by decide) ?_
                refine wk_iinc (lv' := fun r => [(5, .int r), (0, .ref (b 0)), (2, .int x1), (3, .int y12_l3), (4, .int y12_l4)]) (e1 := 2) (f := 4096) hx hb dX12_earOf_102 hl (k := 4) rfl (by decide) g30225 (by decide) (fun _ => rfl) (fun r30279 ls hr30279 er30279 hl => ?_)
                refine lv_goto (tgt := 12) hx hb dX12_earOf_105 (by decide) ?_
                exact ih12 y12_l3 y12_l4 r30279 ls g12_l2 (show Rg 0 4095 y12_l3 from rg_w g30224 (by decide) (by decide)) (show Rg 0 4095 y12_l4 from rg_w g30256 (by decide) (by decide)) (show Rg 1 4096 r30279 from rg_w hr30279 (by decide) (by decide)) (by exact ⟨x12_0.1, ex_1 x12_0.2 er30279 (fun _ _ _ _ _ => c30237)⟩) (lv_sub (l' := [(0, .ref (b 0)), (2, .int x1), (3, .int y12_l3), (4, .int y12_l4), (5, .int r30279)]) hl [1, 2, 3, 4, 0] rfl) (me_up hm12 er30279 (by decide))
  refine lv_iload_n hx hb dX12_earOf_0 rfl (lv_at hl 1 rfl) ?_
  refine lv_iload_n hx hb dX12_earOf_1 rfl (lv_at hl 2 rfl) ?_
  refine lv_iconst (v := (-1)) hx hb dX12_earOf_2 (by decide) ?_
  refine lv_ixor hx hb dX12_earOf_3 ?_
  refine wk_topP (P := fun r => r = x1 ^^^ ((-1) : Int32)) rfl (fun r30280 qr30280 => ?_)
  refine wk_iandl hx hb dX12_earOf_4 px0 (by decide) (fun r30281 hr30281 qr30281 => ?_)
  refine lv_istore_n (lv' := [(3, .int r30281), (0, .ref (b 0)), (1, .int x0), (2, .int x1)]) hx hb dX12_earOf_5 rfl hl (by decide) rfl (fun ls hl => ?_)
  refine lv_iconst (v := 0) hx hb dX12_earOf_6 (by decide) ?_
  refine lv_istore (lv' := [(4, .int 0), (3, .int r30281), (0, .ref (b 0)), (1, .int x0), (2, .int x1)]) hx hb dX12_earOf_7 hl (by decide) rfl (fun ls hl => ?_)
  refine lv_iconst (v := 1) hx hb dX12_earOf_9 (by decide) ?_
  refine lv_istore (lv' := [(5, .int 1), (4, .int 0), (3, .int r30281), (0, .ref (b 0)), (1, .int x0), (2, .int x1)]) hx hb dX12_earOf_10 hl (by decide) rfl (fun ls hl => ?_)
  exact lp12 4096 r30281 (0 : Int32) (1 : Int32) ls px1 hr30281 (by decide : Rg 0 4095 (0 : Int32)) (by decide : Rg 1 4096 (1 : Int32)) (by exact ⟨by rw [qr30281, qr30280], ex_0 hr30281.1 (by decide)⟩) (lv_sub (l' := [(0, .ref (b 0)), (2, .int x1), (3, .int r30281), (4, .int 0), (5, .int 1)]) hl [3, 5, 2, 1, 0] rfl) (me_i (by decide : Rg 1 4096 (1 : Int32)) (by decide))
set_option maxRecDepth 20000 in
theorem ggX12_ear_X12_earOf : GoodIn wsX12_ear wsX12_earOf := goodIn_r _ [34, 16, 28, 29, 4, 30, 24, 25, 26, 27, 10, 21, 22, 23, 35, 36, 37, 38, 39, 40, 41, 42, 43, 44, 45, 46, 47, 48, 49, 50, 51, 52, 53, 54, 55, 56, 57, 58] (by decide +kernel) (by decide +kernel)
set_option maxRecDepth 20000 in
theorem gX12_ear_X12_earOf : GoodIn wsX12_ear (wsV RX12 147 RX12 yX12_earOf wsX12_earOf) := goodIn_app (goodIn_of _ (by decide +kernel)) ggX12_ear_X12_earOf
theorem dX12_ear_10 : decode cX12_ear 10 = .ok (.ireturn, 1) := by decide +kernel
theorem dX12_ear_26 : decode cX12_ear 26 = .ok (.iload_n 1, 1) := by decide +kernel
theorem dX12_ear_27 : decode cX12_ear 27 = .ok (.iload_n 1, 1) := by decide +kernel
theorem dX12_ear_28 : decode cX12_ear 28 = .ok (.ineg, 1) := by decide +kernel
theorem dX12_ear_29 : decode cX12_ear 29 = .ok (.iand, 1) := by decide +kernel
theorem dX12_ear_30 : decode cX12_ear 30 = .ok (.istore_n 3, 1) := by decide +kernel
theorem dX12_ear_31 : decode cX12_ear 31 = .ok (.iconst 0, 1) := by decide +kernel
theorem dX12_ear_32 : decode cX12_ear 32 = .ok (.istore 4, 2) := by decide +kernel
theorem dX12_ear_34 : decode cX12_ear 34 = .ok (.iload_n 3, 1) := by decide +kernel
theorem dX12_ear_35 : decode cX12_ear 35 = .ok (.iload_n 1, 1) := by decide +kernel
theorem dX12_ear_36 : decode cX12_ear 36 = .ok (.if_icmp .eq 31, 3) := by decide +kernel
theorem dX12_ear_39 : decode cX12_ear 39 = .ok (.aload_n 0, 1) := by decide +kernel
theorem dX12_ear_40 : decode cX12_ear 40 = .ok (.iload_n 1, 1) := by decide +kernel
theorem dX12_ear_41 : decode cX12_ear 41 = .ok (.iload_n 3, 1) := by decide +kernel
theorem dX12_ear_42 : decode cX12_ear 42 = .ok (.invokevirtual 147, 3) := by decide +kernel
theorem dX12_ear_45 : decode cX12_ear 45 = .ok (.istore 5, 2) := by decide +kernel
theorem dX12_ear_47 : decode cX12_ear 47 = .ok (.iload 4, 2) := by decide +kernel
theorem dX12_ear_49 : decode cX12_ear 49 = .ok (.iload_n 2, 1) := by decide +kernel
theorem dX12_ear_50 : decode cX12_ear 50 = .ok (.if_icmp .ne 6, 3) := by decide +kernel
theorem dX12_ear_53 : decode cX12_ear 53 = .ok (.iload 5, 2) := by decide +kernel
theorem dX12_ear_55 : decode cX12_ear 55 = .ok (.ireturn, 1) := by decide +kernel
theorem dX12_ear_56 : decode cX12_ear 56 = .ok (.iload_n 3, 1) := by decide +kernel
theorem dX12_ear_57 : decode cX12_ear 57 = .ok (.iload 5, 2) := by decide +kernel
theorem dX12_ear_59 : decode cX12_ear 59 = .ok (.ior, 1) := by decide +kernel
theorem dX12_ear_60 : decode cX12_ear 60 = .ok (.istore_n 3, 1) := by decide +kernel
theorem dX12_ear_61 : decode cX12_ear 61 = .ok (.iinc 4 1, 3) := by decide +kernel
theorem dX12_ear_64 : decode cX12_ear 64 = .ok (.goto (-30), 3) := by decide +kernel
theorem dX12_ear_67 : decode cX12_ear 67 = .ok (.iload_n 2, 1) := by decide +kernel
theorem dX12_ear_68 : decode cX12_ear 68 = .ok (.iconst (-1), 1) := by decide +kernel
theorem dX12_ear_69 : decode cX12_ear 69 = .ok (.if_icmp .ne 8, 3) := by decide +kernel
theorem dX12_ear_72 : decode cX12_ear 72 = .ok (.iload 4, 2) := by decide +kernel
theorem dX12_ear_74 : decode cX12_ear 74 = .ok (.goto 4, 3) := by decide +kernel
theorem dX12_ear_77 : decode cX12_ear 77 = .ok (.iconst (-1), 1) := by decide +kernel
theorem dX12_ear_78 : decode cX12_ear 78 = .ok (.ireturn, 1) := by decide +kernel
set_option maxHeartbeats 4000000 in
set_option maxRecDepth 100000 in
theorem w_X12_ear (l : Launch) (D : va_G) (cI cS : ClassId) (sz : Nat) (b : Nat → Nat) (L v0 : SU) (hL : TyL L) (hV : TyV v0) (x0 x1 : Int32) : Met l yX12_ear wsX12_ear ({ frames := 3, cells := 0, slots := 0, locals := 120 }) (PQ D cI cS (wM cI b L v0) sz [.ref (b 0), .int x0, .int x1]) (QF (S := SU) D (wM cI b L v0) (wM cI b L) sz (fun r u => TyV u ∧ Rg (-2147483648) 2147483647 r ∧ True)) 0 0 (va_A (wM cI b L v0) sz) := by
  refine Met.ofW (cc := cX12_ear) (maxL := 6) (ret := (some .int)) (by decide) rfl ?_
  intro p e s m args below meth c s₁ B hml hv
  obtain ⟨rfl, hsz, hP, hKK, hD0⟩ := hv
  have hx := B.exec
  have hb := B.bytes
  have hr := B.returns
  have hts := atoms_spec (ws := wsX12_ear) B.pre
  have hown : s.vm.findClass RX12 = some m.cls := findClass_of_methodNamed B.named
  have hlocks := B.notSynchronized
  have hK := hKK.1
  subst hsz
  have hD := hD0.self (sz := s.heap.size)
  obtain ⟨A, hAe⟩ : ∃ A, A = va_A (wM cI b L v0) s.heap.size := ⟨_, rfl⟩
  rw [← hAe] at hD
  have hA : ∀ q : Nat, s.heap.size ≤ q → A q := fun q h => by rw [hAe]; exact Or.inr h
  have hS : va_S A s.heap s.heap [] := va_S.rf
  have hl := lv_entry ([.ref (b 0), .int x0, .int x1]) (n := 6) (Nat.le_of_ble_eq_true rfl)
  rw [lg_entry_eq]
  generalize (lg_sl ([.ref (b 0), .int x0, .int x1]) ++ List.replicate (6 - (lg_sl ([.ref (b 0), .int x0, .int x1])).length) Slot.unset).toArray = ls at hl ⊢
  have hl : lv_has ls 6 [(0, .ref (b 0)), (1, .int x0), (2, .int x1)] := hl
  obtain ⟨v, hv9⟩ : ∃ v : SU, v = v0 := ⟨_, rfl⟩
  rw [← hv9] at hP hD hV
  have lp34 : ∀ (n34 : Nat) (y34_l3 : Int32) (y34_l4 : Int32) (v : SU) (H : Heap) (locs : List Loc) (ls : Array Slot), Rg 0 4095 x0 → Rg 0 4095 y34_l3 → (EA v (L 0 0) x0 y34_l3 ∧ Rg 0 4095 x0) → TyV v → va_P D cls (wM cI b L v) H → va_D A (wM cI b L v) → va_S A s.heap H locs → lv_has ls 6 [(0, .ref (b 0)), (1, .int x0), (2, .int x1), (3, .int y34_l3), (4, .int y34_l4)] → 4095 - y34_l3.toInt < (n34 : Int) → W p l e (headSpec wsX12_ear ({ frames := 3, cells := 0, slots := 0, locals := 120 })).room s m ([.ref (b 0), .int x0, .int x1]).toArray below meth c H locs 0 0 (MQ below (QF (S := SU) D (wM cI b L v0) (wM cI b L) s.heap.size (fun r u => TyV u ∧ Rg (-2147483648) 2147483647 r ∧ True)) ([.ref (b 0), .int x0, .int x1]).toArray s 0 0 (va_A (wM cI b L v0) s.heap.size)) (F0 m 34 ls []) := by
    intro n34
    induction n34 with
    | zero =>
      intro y34_l3 y34_l4 v H locs ls g34_l1 g34_l3 x34_0 hV hP hD hS hl hm34
      exact absurd rfl (me_z g34_l3 hm34)
    | succ n34 ih34 =>
      intro y34_l3 y34_l4 v H locs ls g34_l1 g34_l3 x34_0 hV hP hD hS hl hm34
      refine lv_iload_n hx hb dX12_ear_34 rfl (lv_at hl 3 rfl) ?_
      refine lv_iload_n hx hb dX12_ear_35 rfl (lv_at hl 1 rfl) ?_
      refine lv_icmp_eq (tgt := 67) hx hb dX12_ear_36 (by decide) (fun c30889 => ?_) (fun c30889 => ?_)
      · refine lv_iload_n hx hb dX12_ear_67 rfl (lv_at hl 2 rfl) ?_
        refine lv_iconst (v := (-1)) hx hb dX12_ear_68 (by decide) ?_
        refine lv_icmp_ne (tgt := 77) hx hb dX12_ear_69 (by decide) (fun c30890 => ?_) (fun c30890 => ?_)
        · refine lv_iconst (v := (-1)) hx hb dX12_ear_77 (by decide) ?_
          subst hAe
          exact W.iret (v := (-1)) hx hb hr (fun t ht hW => ⟨⟨_, v, rfl, ⟨hV, (by decide : Rg (-2147483648) 2147483647 ((-1) : Int32)), trivial⟩, by rw [ht]; exact hP, hD⟩, hS.F ht⟩) hS.2.2 dX12_ear_78
        · have g30891 : Rg (-1) (-1) x1 := wk_eql (rg_any x1) (by decide : Rg (-1) (-1) ((-1) : Int32)) c30890 (by decide)
          refine lv_iload hx hb dX12_ear_72 (lv_at hl 4 rfl) ?_
          refine lv_goto (tgt := 78) hx hb dX12_ear_74 (by decide) ?_
          subst hAe
          exact W.iret (v := y34_l4) hx hb hr (fun t ht hW => ⟨⟨_, v, rfl, ⟨hV, (rg_any y34_l4), trivial⟩, by rw [ht]; exact hP, hD⟩, hS.F ht⟩) hS.2.2 dX12_ear_78
      · refine lv_aload_n hx hb dX12_ear_39 rfl (lv_at hl 0 rfl) ?_
        refine lv_iload_n hx hb dX12_ear_40 rfl (lv_at hl 1 rfl) ?_
        refine lv_iload_n hx hb dX12_ear_41 rfl (lv_at hl 3 rfl) ?_
        refine wk_sv 0 (As := [.int x0, .int y34_l3]) (rest := []) ⟨hx, hb, hml, hown, hts⟩ (w_X12_earOf l D cI cS b L v hL hV x0 y34_l3 g34_l1 g34_l3) hKK hP (ci := 12) rfl rfl (cwV 2 hts gX12_ear_X12_earOf rfl rfl rfl (by decide +kernel) ⟨Nat.le_of_ble_eq_true rfl, Nat.le_of_ble_eq_true rfl⟩) rfl hl.1 rfl (Nat.le_of_ble_eq_true rfl) dX12_ear_42 ⟨Nat.le_of_ble_eq_true rfl, Nat.le_of_ble_eq_true rfl⟩ (fun r30892 hr30892 => ?_)
        refine lv_istore (lv' := [(5, .int r30892), (0, .ref (b 0)), (1, .int x0), (2, .int x1), (3, .int y34_l3), (4, .int y34_l4)]) hx hb dX12_ear_45 hl (by decide) rfl (fun ls hl => ?_)
        refine lv_iload hx hb dX12_ear_47 (lv_at hl 5 rfl) ?_
        refine lv_iload_n hx hb dX12_ear_49 rfl (lv_at hl 3 rfl) ?_
        refine lv_icmp_ne (tgt := 56) hx hb dX12_ear_50 (by decide) (fun c30893 => ?_) (fun c30893 => ?_)
        · have g30894 : Rg 0 4095 r30892 := (ea_1 x34_0.1 hV.2.1 x34_0.2 g34_l3 c30889 hr30892.2 rfl).2.2
          refine lv_iload_n hx hb dX12_ear_56 rfl (lv_at hl 4 rfl) ?_
          refine lv_iload hx hb dX12_ear_57 (lv_at hl 0 rfl) ?_
          refine wk_ior 12 (e1 := 0) (f := 4095) hx hb dX12_ear_59 g34_l3 g30894 (by decide) (fun r30895 hr30895 qr30895 => ?_)
          refine lv_istore_n (lv' := [(3, .int r30895), (5, .int r30892), (0, .ref (b 0)), (1, .int x0), (2, .int x1), (4, .int y34_l4)]) hx hb dX12_ear_60 rfl hl (by decide) rfl (fun ls hl => ?_)
          refine wk_iincA (lv' := fun r => [(4, .int r), (3, .int r30895), (5, .int r30892), (0, .ref (b 0)), (1, .int x0), (2, .int x1)]) hx hb dX12_ear_61 hl (k := 5) rfl (by decide) (fun _ => rfl) (fun r30896 ls hl => ?_)
          refine lv_goto (tgt := 34) hx hb dX12_ear_64 (by decide) ?_
          exact ih34 r30895 r30896 v _ _ ls g34_l1 hr30895 (by exact ⟨(ea_1 x34_0.1 hV.2.1 x34_0.2 g34_l3 c30889 hr30892.2 qr30895).1, x34_0.2⟩) hV hP hD hS (lv_sub (l' := [(0, .ref (b 0)), (1, .int x0), (2, .int x1), (3, .int r30895), (4, .int r30896)]) hl [3, 4, 5, 1, 0] rfl) (by have z1 := (ea_1 x34_0.1 hV.2.1 x34_0.2 g34_l3 c30889 hr30892.2 qr30895).2.1; have z2 := hm34; omega)
        · refine lv_iload hx hb dX12_ear_53 (lv_at hl 0 rfl) ?_
          subst hAe
          exact W.iret (v := r30892) hx hb hr (fun t ht hW => ⟨⟨_, v, rfl, ⟨hV, (rg_any r30892), trivial⟩, by rw [ht]; exact hP, hD⟩, hS.F ht⟩) hS.2.2 dX12_ear_55
  refine lv_aload_n hx hb dX12_ear_0 rfl (lv_at hl 0 rfl) ?_
  refine lv_iload_n hx hb dX12_ear_1 rfl (lv_at hl 1 rfl) ?_
  refine wk_sv 0 (As := [.int x0]) (rest := []) ⟨hx, hb, hml, hown, hts⟩ (w_X12_isSet l D cI cS b L v hL hV x0) hKK hP (ci := 12) rfl rfl (cwV 1 hts gX12_ear_X12_isSet rfl rfl rfl (by decide +kernel) ⟨Nat.le_of_ble_eq_true rfl, Nat.le_of_ble_eq_true rfl⟩) rfl hl.1 rfl (Nat.le_of_ble_eq_true rfl) dX12_ear_2 ⟨Nat.le_of_ble_eq_true rfl, Nat.le_of_ble_eq_true rfl⟩ (fun r30897 hr30897 => ?_)
  refine lv_if_ne (tgt := 11) hx hb dX12_ear_5 (by decide) (fun c30898 => ?_) (fun c30898 => ?_)
  · have g30899 : Rg 0 4095 x0 := (hr30897.2.1 c30898)
    have g30900 : Rg 1 1 r30897 := rg_ne_lo (k := 0) hr30897.1 (by decide) c30898 (by decide)
    refine lv_aload_n hx hb dX12_ear_11 rfl (lv_at hl 0 rfl) ?_
    refine wk_qv (wM cI b L) v (As := []) (rest := []) ⟨hx, hb, hml, hown, hts⟩ (w_X12_reckons l D cI cS _ b L v hL hV) hKK hP hD hS hA 0 (ci := 12) rfl rfl (cwV 0 hts gX12_ear_X12_reckons rfl rfl rfl (by decide +kernel) ⟨Nat.le_of_ble_eq_true rfl, Nat.le_of_ble_eq_true rfl⟩) rfl hl.1 rfl (Nat.le_of_ble_eq_true rfl) dX12_ear_12 ⟨Nat.le_of_ble_eq_true rfl, Nat.le_of_ble_eq_true rfl⟩ (fun v H locs hr30901 hP hD hS => ?_)
    have hV := hr30901.1
    refine lv_aload_n hx hb dX12_ear_15 rfl (lv_at hl 0 rfl) ?_
    refine lv_iload_n hx hb dX12_ear_16 rfl (lv_at hl 1 rfl) ?_
    refine wk_sv 0 (As := [.int x0]) (rest := []) ⟨hx, hb, hml, hown, hts⟩ (w_X12_isCritical_E l D cI cS b L v hL hV x0 g30899) hKK hP (ci := 12) rfl rfl (cwV 1 hts gX12_ear_X12_isCritical rfl rfl rfl (by decide +kernel) ⟨Nat.le_of_ble_eq_true rfl, Nat.le_of_ble_eq_true rfl⟩) rfl hl.1 rfl (Nat.le_of_ble_eq_true rfl) dX12_ear_17 ⟨Nat.le_of_ble_eq_true rfl, Nat.le_of_ble_eq_true rfl⟩ (fun r30902 hr30902 => ?_)
    refine lv_if_ne (tgt := 26) hx hb dX12_ear_20 (by decide) (fun c30903 => ?_) (fun c30903 => ?_)
    · have g30904 : Rg 1 1 r30902 := rg_ne_lo (k := 0) hr30902.1 (by decide) c30903 (by decide)
      refine lv_iload_n hx hb dX12_ear_26 rfl (lv_at hl 1 rfl) ?_
      refine lv_iload_n hx hb dX12_ear_27 rfl (lv_at hl 1 rfl) ?_
      refine lv_ineg hx hb dX12_ear_28 ?_
      refine wk_topP (P := fun r => r = -x0) rfl (fun r30905 qr30905 => ?_)
      refine wk_iandl hx hb dX12_ear_29 g30899 (by decide) (fun r30906 hr30906 qr30906 => ?_)
      refine lv_istore_n (lv' := [(3, .int r30906), (0, .ref (b 0)), (1, .int x0), (2, .int x1)]) hx hb dX12_ear_30 rfl hl (by decide) rfl (fun ls hl => ?_)
      refine lv_iconst (v := 0) hx hb dX12_ear_31 (by decide) ?_
      refine lv_istore (lv' := [(4, .int 0), (3, .int r30906), (0, .ref (b 0)), (1, .int x0), (2, .int x1)]) hx hb dX12_ear_32 hl (by decide) rfl (fun ls hl => ?_)
      exact lp34 4096 r30906 (0 : Int32) v _ _ ls g30899 hr30906 (by rw [qr30906, qr30905]; exact ⟨ea_0 (hr30902.2.1 c30903) g30899 hL.1 (hr30897.2.2 c30898), g30899⟩) hV hP hD hS (lv_sub (l' := [(0, .ref (b 0)), (1, .int x0), (2, .int x1), (3, .int r30906), (4, .int 0)]) hl [2, 3, 4, 1, 0] rfl) (me_i hr30906 (by decide))
    · have g30907 : Rg 0 0 r30902 := wk_eql hr30902.1 (by decide : Rg 0 0 (0 : Int32)) c30903 (by decide)
      refine lv_bipush (v := (-3)) hx hb dX12_ear_23 (by decide) ?_
      subst hAe
      exact W.iret (v := (-3)) hx hb hr (fun t ht hW => ⟨⟨_, v, rfl, ⟨hV, (by decide : Rg (-2147483648) 2147483647 ((-3) : Int32)), trivial⟩, by rw [ht]; exact hP, hD⟩, hS.F ht⟩) hS.2.2 dX12_ear_25
  · have g30908 : Rg 0 0 r30897 := wk_eql hr30897.1 (by decide : Rg 0 0 (0 : Int32)) c30898 (by decide)
    refine lv_bipush (v := (-2)) hx hb dX12_ear_8 (by decide) ?_
    subst hAe
    exact W.iret (v := (-2)) hx hb hr (fun t ht hW => ⟨⟨_, v, rfl, ⟨hV, (by decide : Rg (-2147483648) 2147483647 ((-2) : Int32)), trivial⟩, by rw [ht]; exact hP, hD⟩, hS.F ht⟩) hS.2.2 dX12_ear_10
