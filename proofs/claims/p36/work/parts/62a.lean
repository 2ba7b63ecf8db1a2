theorem ks_astE {p : Program} {l : Launch} {e : Env} {R : Room} {s : State} {m : MethodId} {args : Array Value} {below : List Frame} {meth : Method} {c : Code} {H : Heap} {locs : List Loc} {cells slots : Nat} {Q : State → Prop} {pc : Nat} {ls : Array Slot} {rest : List Value} {cc : ByteArray} {D : va_G} {cI cS : ClassId} {a : Nat → Nat} {na nc N : Nat} {L u : SU} {A : Nat → Prop} {H0 : Heap} {tys : List (ClassId × FieldType)} {k n a0 : Nat} {f : Nat → Int32} (hexec : p.tables.exec = Jvm.exec) (hb : c.code = cc) (hK : va_K D cls tys s) (hP : va_P D cls (wX cI cS a na nc N L u) H) (hD : va_D A (wX cI cS a na nc N L u)) (hS : va_S A H0 H locs) (ht : tys[0]? = some (cI, .int)) (hg : (wX cI cS a na nc N L u)[k]? = some (a0, .inl (cI, n, .inl f))) (hs : ∀ g, (wX cI cS a na nc N L u).set k (a0, .inl (cI, n, .inl g)) = wX cI cS a na nc N L (sU u k g)) {i x : Int32} (hin : vp_in i n) (hdg : decode cc pc = .ok (.iastore, 1))
    (kk : ∀ (u1 : SU) (H1 : Heap) (locs1 : List Loc), u1 = sU u k (upd f i.toNatClampNeg x) → va_P D cls (wX cI cS a na nc N L u1) H1 → va_D A (wX cI cS a na nc N L u1) → va_S A H0 H1 locs1 → W p l e R s m args below meth c H1 locs1 cells slots Q (F0 m (pc + 1) ls rest)) : W p l e R s m args below meth c H locs cells slots Q (F0 m pc ls (.int x :: .int i :: .ref a0 :: rest)) :=
  va_iast hexec hb hK hP hD hS k 0 hg ht hin hdg (fun H1 locs1 h1 h2 h3 => kk _ H1 locs1 rfl (hs _ ▸ h1) (hs _ ▸ h2) h3)
theorem layX_of {v v1 v2 : SU} {a b p q : Int32} (e1 : v1 = sU v 2 (upd (v 2) a.toNatClampNeg p)) (e2 : v2 = sU v1 2 (upd (v1 2) b.toNatClampNeg q)) (h1 : p = v 2 a.toNatClampNeg ||| ((1 : Int32) <<< (b &&& 31))) (h2 : q = v1 2 b.toNatClampNeg ||| ((1 : Int32) <<< (a &&& 31))) : v2 2 = layI (v 2) a b := by
  subst e2
  show upd (v1 2) b.toNatClampNeg q = _
  rw [h2]
  subst e1
  rw [h1]
  rfl
theorem pd_zX {v v1 : SU} {p p2 : Int32} (h : ∀ j, j < p.toNatClampNeg → v 2 j = 0) (hp : 0 ≤ p.toInt) (h2 : p2.toInt = p.toInt + 1) (e : v1 = sU v 2 (upd (v 2) p.toNatClampNeg 0)) : ∀ j, j < p2.toNatClampNeg → v1 2 j = 0 := by
  subst e
  intro j hj
  show upd (v 2) p.toNatClampNeg 0 j = 0
  have e1 : p.toNatClampNeg = p.toInt.toNat := rfl
  have e2 : p2.toNatClampNeg = p2.toInt.toNat := rfl
  by_cases z : j = p.toNatClampNeg
  · rw [z, upd_eq]
  · rw [upd_ne z]
    exact h j (by omega)
theorem k_bitCount_E (l : Launch) (D : va_G) (cI cS : ClassId) (x0 : Int32) : Met l yJ6_bitCount_0f7a4 wsJ6_bitCount_0f7a4 ({ frames := 0, cells := 0, slots := 0, locals := 0 }) (PS D cI cS [] [.int x0]) (vp_Si (fun r => Rg (-2147483648) 2147483647 r ∧ r = bc x0)) 0 0 (fun _ => False) :=
  met_si (c_J6_bitCount_0f7a4_1 l D cI cS x0) (fun r hr => ⟨rg_any r, hr⟩)

set_option maxHeartbeats 4000000 in
set_option maxRecDepth 100000 in
theorem k_X2_areTwo_z (l : Launch) (D : va_G) (cI cS : ClassId) (a : Nat → Nat) (na nc N : Nat) (L u : SU) (hL : TyX L) (hN : N = 0 ∨ N = 24576) (x0 x1 : Int32) : Met l yX2_areTwo wsX2_areTwo ({ frames := 1, cells := 0, slots := 0, locals := 40 }) (PS D cI cS (wX cI cS a na nc N L u) [.ref (a 1), .int x0, .int x1]) (vp_Si (fun r => Rg 0 1 r ∧ (r ≠ 0 → Rg 0 11 x0 ∧ Rg 0 11 x1) ∧ (r = 0 → ¬ (0 ≤ x0.toInt ∧ x0.toInt < (L 1 1).toInt ∧ 0 ≤ x1.toInt ∧ x1.toInt < (L 1 1).toInt ∧ ¬ x0.toInt = x1.toInt)))) 0 0 (fun _ => False) := by
  refine Met.ofW (cc := cX2_areTwo) (maxL := 3) (ret := (some .boolean)) (by decide) rfl ?_
  intro p e s m args below meth c s₁ B hml hv
  obtain ⟨rfl, hP, hKK⟩ := hv
  have hx := B.exec
  have hb := B.bytes
  have hr := B.returns
  have hts := atoms_spec (ws := wsX2_areTwo) B.pre
  have hown : s.vm.findClass RX2 = some m.cls := findClass_of_methodNamed B.named
  have hlocks := B.notSynchronized
  have hK := hKK.1
  have hl := lv_entry ([.ref (a 1), .int x0, .int x1]) (n := 3) (Nat.le_of_ble_eq_true rfl)
  rw [lg_entry_eq]
  generalize (lg_sl ([.ref (a 1), .int x0, .int x1]) ++ List.replicate (3 - (lg_sl ([.ref (a 1), .int x0, .int x1])).length) Slot.unset).toArray = ls at hl ⊢
  have hl : lv_has ls 3 [(0, .ref (a 1)), (1, .int x0), (2, .int x1)] := hl
  refine lv_aload_n hx hb dX2_areTwo_0 rfl (lv_at hl 0 rfl) ?_
  refine lv_iload_n hx hb dX2_areTwo_1 rfl (lv_at hl 1 rfl) ?_
  refine wk_sv 1 (As := [.int x0]) (rest := []) ⟨hx, hb, hml, hown, hts⟩ (k_X2_hasPoint_z l D cI cS a na nc N L u hL hN x0) hKK hP (ci := 2) rfl rfl (cwV 1 hts gX2_areTwo_X2_hasPoint rfl rfl rfl (by decide +kernel) ⟨Nat.le_of_ble_eq_true rfl, Nat.le_of_ble_eq_true rfl⟩) rfl hl.1 rfl (Nat.le_of_ble_eq_true rfl) dX2_areTwo_2 ⟨Nat.le_of_ble_eq_true rfl, Nat.le_of_ble_eq_true rfl⟩ (fun r50427 hr50427 => ?_)
  refine lv_if_eq (tgt := 25) hx hb dX2_areTwo_5 (by decide) (fun c50428 => ?_) (fun c50428 => ?_)
  · have zn50429 : ¬ (0 ≤ x0.toInt ∧ x0.toInt < (L 1 1).toInt) := hr50427.2.2.2 c50428
    have g50430 : Rg 0 0 r50427 := wk_eql hr50427.1 (by decide : Rg 0 0 (0 : Int32)) c50428 (by decide)
    refine lv_iconst (v := 0) hx hb dX2_areTwo_25 (by decide) ?_
    exact W.zret (v := 0) hx hb hr (by decide) (fun t ht hW => ⟨_, rfl, ⟨(by decide : Rg 0 1 (0 : Int32)), fun h9 => absurd rfl h9, fun _ => (by have y90 : r50427.toInt = (0 : Int32).toInt := congrArg Int32.toInt c50428; have y91 : Rg 0 0 r50427 := g50430; have y9c2 : (0 : Int32).toInt = 0 := (by decide); have y9c3 : (1 : Int32).toInt = 1 := (by decide); skip; omega)⟩, ht⟩) (fun q hq => absurd hq List.not_mem_nil) dX2_areTwo_26
  · have g50431 : Rg 0 11 x0 := (hr50427.2.1 c50428)
    have zn50432 : (0 ≤ x0.toInt ∧ x0.toInt < (L 1 1).toInt) := hr50427.2.2.1 c50428
    have g50433 : Rg 1 1 r50427 := rg_ne_lo (k := 0) hr50427.1 (by decide) c50428 (by decide)
    refine lv_aload_n hx hb dX2_areTwo_8 rfl (lv_at hl 0 rfl) ?_
    refine lv_iload_n hx hb dX2_areTwo_9 rfl (lv_at hl 2 rfl) ?_
    refine wk_sv 1 (As := [.int x1]) (rest := []) ⟨hx, hb, hml, hown, hts⟩ (k_X2_hasPoint_z l D cI cS a na nc N L u hL hN x1) hKK hP (ci := 2) rfl rfl (cwV 1 hts gX2_areTwo_X2_hasPoint rfl rfl rfl (by decide +kernel) ⟨Nat.le_of_ble_eq_true rfl, Nat.le_of_ble_eq_true rfl⟩) rfl hl.1 rfl (Nat.le_of_ble_eq_true rfl) dX2_areTwo_10 ⟨Nat.le_of_ble_eq_true rfl, Nat.le_of_ble_eq_true rfl⟩ (fun r50434 hr50434 => ?_)
    refine lv_if_eq (tgt := 25) hx hb dX2_areTwo_13 (by decide) (fun c50435 => ?_) (fun c50435 => ?_)
    · have zn50436 : ¬ (0 ≤ x1.toInt ∧ x1.toInt < (L 1 1).toInt) := hr50434.2.2.2 c50435
      have g50437 : Rg 0 0 r50434 := wk_eql hr50434.1 (by decide : Rg 0 0 (0 : Int32)) c50435 (by decide)
      refine lv_iconst (v := 0) hx hb dX2_areTwo_25 (by decide) ?_
      exact W.zret (v := 0) hx hb hr (by decide) (fun t ht hW => ⟨_, rfl, ⟨(by decide : Rg 0 1 (0 : Int32)), fun h9 => absurd rfl h9, fun _ => (by have y90 : ¬ r50427.toInt = (0 : Int32).toInt := fun z => c50428 (Int32.toInt_inj.mp z); have y91 : r50434.toInt = (0 : Int32).toInt := congrArg Int32.toInt c50435; have y92 : Rg 0 11 x0 := g50431; have y93 : Rg 1 1 r50427 := g50433; have y94 : Rg 0 0 r50434 := g50437; have y95 : Rg 0 11 x0 := g50431; have y9c6 : (0 : Int32).toInt = 0 := (by decide); have y9c7 : (1 : Int32).toInt = 1 := (by decide); skip; omega)⟩, ht⟩) (fun q hq => absurd hq List.not_mem_nil) dX2_areTwo_26
    · have g50438 : Rg 0 11 x1 := (hr50434.2.1 c50435)
      have zn50439 : (0 ≤ x1.toInt ∧ x1.toInt < (L 1 1).toInt) := hr50434.2.2.1 c50435
      have g50440 : Rg 1 1 r50434 := rg_ne_lo (k := 0) hr50434.1 (by decide) c50435 (by decide)
      refine lv_iload_n hx hb dX2_areTwo_16 rfl (lv_at hl 1 rfl) ?_
      refine lv_iload_n hx hb dX2_areTwo_17 rfl (lv_at hl 2 rfl) ?_
      refine lv_icmp_eq (tgt := 25) hx hb dX2_areTwo_18 (by decide) (fun c50441 => ?_) (fun c50441 => ?_)
      · refine lv_iconst (v := 0) hx hb dX2_areTwo_25 (by decide) ?_
        exact W.zret (v := 0) hx hb hr (by decide) (fun t ht hW => ⟨_, rfl, ⟨(by decide : Rg 0 1 (0 : Int32)), fun h9 => absurd rfl h9, fun _ => (by have y90 : ¬ r50427.toInt = (0 : Int32).toInt := fun z => c50428 (Int32.toInt_inj.mp z); have y91 : ¬ r50434.toInt = (0 : Int32).toInt := fun z => c50435 (Int32.toInt_inj.mp z); have y92 : x0.toInt = x1.toInt := congrArg Int32.toInt c50441; have y93 : Rg 0 11 x0 := g50431; have y94 : Rg 1 1 r50427 := g50433; have y95 : Rg 0 11 x1 := g50438; have y96 : Rg 1 1 r50434 := g50440; have y97 : Rg 0 11 x0 := g50431; have y98 : Rg 0 11 x1 := g50438; have y9c9 : (0 : Int32).toInt = 0 := (by decide); have y9c10 : (1 : Int32).toInt = 1 := (by decide); skip; omega)⟩, ht⟩) (fun q hq => absurd hq List.not_mem_nil) dX2_areTwo_26
      · refine lv_iconst (v := 1) hx hb dX2_areTwo_21 (by decide) ?_
        refine lv_goto (tgt := 26) hx hb dX2_areTwo_22 (by decide) ?_
        exact W.zret (v := 1) hx hb hr (by decide) (fun t ht hW => ⟨_, rfl, ⟨(by decide : Rg 0 1 (1 : Int32)), fun _ => ⟨g50431, g50438⟩, fun h9 => absurd h9 (by decide)⟩, ht⟩) (fun q hq => absurd hq List.not_mem_nil) dX2_areTwo_26
set_option maxHeartbeats 4000000 in
set_option maxRecDepth 100000 in
theorem k_X2_join_1 (l : Launch) (D : va_G) (cI cS : ClassId) (sz : Nat) (a : Nat → Nat) (na nc N : Nat) (L u0 : SU) (hL : TyX L) (hN : N = 0 ∨ N = 24576) (x0 x1 : Int32) (px0 : Rg 0 11 x0) (px1 : Rg 0 11 x1) (hj : 0 ≤ x0.toInt ∧ x0.toInt < x1.toInt ∧ x1.toInt < (L 1 1).toInt) : Met l yX2_join wsX2_join ({ frames := 2, cells := 0, slots := 0, locals := 80 }) (PQ D cI cS (wX cI cS a na nc N L u0) sz [.ref (a 1), .int x0, .int x1, .int 1]) (QE (S := SU) D (wX cI cS a na nc N L u0) (wX cI cS a na nc N L) sz (fun u => u 2 = layI (u0 2) x0 x1)) 0 0 (va_A (wX cI cS a na nc N L u0) sz) := by
  refine Met.ofW (cc := cX2_join) (maxL := 4) (ret := none) (by decide) rfl ?_
  intro p e s m args below meth c s₁ B hml hv
  obtain ⟨rfl, hsz, hP, hKK, hD0⟩ := hv
  have hx := B.exec
  have hb := B.bytes
  have hr := B.returns
  have hts := atoms_spec (ws := wsX2_join) B.pre
  have hown : s.vm.findClass RX2 = some m.cls := findClass_of_methodNamed B.named
  have hlocks := B.notSynchronized
  have hK := hKK.1
  have hin2 : ∀ w ∈ wsX20, w ∈ wsX2_join := by decide +kernel
  subst hsz
  have hD := hD0.self (sz := s.heap.size)
  obtain ⟨A, hAe⟩ : ∃ A, A = va_A (wX cI cS a na nc N L u0) s.heap.size := ⟨_, rfl⟩
  rw [← hAe] at hD
  have hA : ∀ q : Nat, s.heap.size ≤ q → A q := fun q h => by rw [hAe]; exact Or.inr h
  have hS : va_S A s.heap s.heap [] := va_S.rf
  have hl := lv_entry ([.ref (a 1), .int x0, .int x1, .int 1]) (n := 4) (Nat.le_of_ble_eq_true rfl)
  rw [lg_entry_eq]
  generalize (lg_sl ([.ref (a 1), .int x0, .int x1, .int 1]) ++ List.replicate (4 - (lg_sl ([.ref (a 1), .int x0, .int x1, .int 1])).length) Slot.unset).toArray = ls at hl ⊢
  have hl : lv_has ls 4 [(0, .ref (a 1)), (1, .int x0), (2, .int x1), (3, .int 1)] := hl
  obtain ⟨u, hu9⟩ : ∃ u : SU, u = u0 := ⟨_, rfl⟩
  rw [← hu9] at hP hD
  refine lv_aload_n hx hb dX2_join_0 rfl (lv_at hl 0 rfl) ?_
  refine lv_iload_n hx hb dX2_join_1 rfl (lv_at hl 1 rfl) ?_
  refine lv_iload_n hx hb dX2_join_2 rfl (lv_at hl 2 rfl) ?_
  refine wk_sv 1 (As := [.int x0, .int x1]) (rest := []) ⟨hx, hb, hml, hown, hts⟩ (k_X2_areTwo_z l D cI cS a na nc N L u hL hN x0 x1) hKK hP (ci := 2) rfl rfl (cwV 2 hts gX2_join_X2_areTwo rfl rfl rfl (by decide +kernel) ⟨Nat.le_of_ble_eq_true rfl, Nat.le_of_ble_eq_true rfl⟩) rfl hl.1 rfl (Nat.le_of_ble_eq_true rfl) dX2_join_3 ⟨Nat.le_of_ble_eq_true rfl, Nat.le_of_ble_eq_true rfl⟩ (fun r50459 hr50459 => ?_)
  refine lv_if_ne (tgt := 10) hx hb dX2_join_6 (by decide) (fun c50460 => ?_) (fun c50460 => ?_)
  · have g50461 : Rg 1 1 r50459 := rg_ne_lo (k := 0) hr50459.1 (by decide) c50460 (by decide)
    refine lv_iload_n hx hb dX2_join_10 rfl (lv_at hl 3 rfl) ?_
    refine lv_if_eq (tgt := 41) hx hb dX2_join_11 (by decide) (fun c50462 => ?_) (fun c50462 => ?_)
    · exact absurd c50462 (by decide)
    · refine lv_aload_n hx hb dX2_join_14 rfl (lv_at hl 0 rfl) ?_
      refine va_get (D := D) (ci := 2) (v := .ref (a 2)) (C := RX2) (T := TX2) (N := 3) hx hb hts hin2 hown hK hP 1 rfl rfl 0 (by decide) (hts (.fieldLink RX2 9 "MissedPoints$Net" "links" "[I") (by decide +kernel)) (fun _ h9 => h9) rfl dX2_join_15 ?_
      refine lv_iload_n hx hb dX2_join_18 rfl (lv_at hl 1 rfl) ?_
      refine lv_dup2_11 hx hb dX2_join_19 rfl rfl ?_
      refine va_iald hx hb hK hP 2 0 rfl rfl (rg_in px0 (by decide) (by decide)) dX2_join_20 ?_
      refine lz_top (y := (u 2 x0.toNatClampNeg)) rfl ?_
      refine lv_iconst (v := 1) hx hb dX2_join_21 (by decide) ?_
      refine lv_iload_n hx hb dX2_join_22 rfl (lv_at hl 2 rfl) ?_
      refine wk_ishl1 (f := 2048) hx hb dX2_join_23 px1 (by decide) (fun r50463 hr50463 qr50463 => ?_)
      refine lv_ior hx hb dX2_join_24 ?_
      refine wk_topP (P := fun r => r = (u 2 x0.toNatClampNeg) ||| r50463) rfl (fun r50464 qr50464 => ?_)
      refine ks_astE hx hb hK hP hD hS rfl (k := 2) rfl sx_2 (rg_in px0 (by decide) (by decide)) dX2_join_25 (fun u50465 H locs ev50466 hP hD hS => ?_)
      refine lv_aload_n hx hb dX2_join_26 rfl (lv_at hl 0 rfl) ?_
      refine va_get (D := D) (ci := 2) (v := .ref (a 2)) (C := RX2) (T := TX2) (N := 3) hx hb hts hin2 hown hK hP 1 rfl rfl 0 (by decide) (hts (.fieldLink RX2 9 "MissedPoints$Net" "links" "[I") (by decide +kernel)) (fun _ h9 => h9) rfl dX2_join_27 ?_
      refine lv_iload_n hx hb dX2_join_30 rfl (lv_at hl 2 rfl) ?_
      refine lv_dup2_11 hx hb dX2_join_31 rfl rfl ?_
      refine va_iald hx hb hK hP 2 0 rfl rfl (rg_in px1 (by decide) (by decide)) dX2_join_32 ?_
      refine lz_top (y := (u50465 2 x1.toNatClampNeg)) rfl ?_
      refine lv_iconst (v := 1) hx hb dX2_join_33 (by decide) ?_
      refine lv_iload_n hx hb dX2_join_34 rfl (lv_at hl 1 rfl) ?_
      refine wk_ishl1 (f := 2048) hx hb dX2_join_35 px0 (by decide) (fun r50467 hr50467 qr50467 => ?_)
      refine lv_ior hx hb dX2_join_36 ?_
      refine wk_topP (P := fun r => r = (u50465 2 x1.toNatClampNeg) ||| r50467) rfl (fun r50468 qr50468 => ?_)
      refine ks_astE hx hb hK hP hD hS rfl (k := 2) rfl sx_2 (rg_in px1 (by decide) (by decide)) dX2_join_37 (fun u50469 H locs ev50470 hP hD hS => ?_)
      refine lv_goto (tgt := 69) hx hb dX2_join_38 (by decide) ?_
      refine lv_aload_n hx hb dX2_join_69 rfl (lv_at hl 0 rfl) ?_
      refine lv_dup hx hb dX2_join_70 rfl ?_
      refine va_get (D := D) (ci := 2) (v := .int (u50469 1 2)) (C := RX2) (T := TX2) (N := 3) hx hb hts hin2 hown hK hP 1 rfl rfl 2 (by decide) (hts (.fieldLink RX2 33 "MissedPoints$Net" "changes" "I") (by decide +kernel)) (fun _ h9 => h9) rfl dX2_join_71 ?_
      refine wk_any (fun r50471 => ?_)
      refine lv_iconst (v := 1) hx hb dX2_join_74 (by decide) ?_
      refine lv_iadd hx hb dX2_join_75 ?_
      refine wk_topP (P := fun r => r = r50471 + (1 : Int32)) rfl (fun r50472 qr50472 => ?_)
      refine va_put (D := D) (ci := 2) (v := .int r50472) (ty := .int) (C := RX2) (T := TX2) (N := 3) hx hb hts hin2 tyX2 tyX2_ok nmX2 hown hK hP hD hS 1 rfl rfl 2 (by decide) (hts (.fieldLink RX2 33 "MissedPoints$Net" "changes" "I") (by decide +kernel)) (fun _ h9 => h9) rfl (by decide +kernel) rfl rfl (Nat.le_of_ble_eq_true rfl) dX2_join_76 (fun H locs hP hD hS => ?_)
      rw [sxf_1_2] at hP hD
      generalize ev50474 : sU u50469 1 _ = u50473 at hP hD
      have sev50474 : u50473 2 = u50469 2 := by rw [← ev50474]; rfl
      subst hAe
      exact W.vret hx hb hr (fun t ht hW => ⟨⟨u50473, rfl, (by show u50473 2 = layI (u0 2) x0 x1; rw [sev50474, ← hu9]; exact layX_of ev50466 ev50470 (by rw [qr50464, qr50463]) (by rw [qr50468, qr50467])), by rw [ht]; exact hP, hD⟩, hS.F ht⟩) hS.2.2 dX2_join_79
  · have g50475 : Rg 0 0 r50459 := wk_eql hr50459.1 (by decide : Rg 0 0 (0 : Int32)) c50460 (by decide)
    exact absurd (show _ from by have z9 := hj; omega) (hr50459.2.2 c50460)
set_option maxHeartbeats 4000000 in
set_option maxRecDepth 100000 in
theorem k_X0_draw_D (l : Launch) (D : va_G) (cI cS : ClassId) (sz : Nat) (a : Nat → Nat) (na nc N : Nat) (tw : SU) (l_s l_t l_i l_kp l_iz l_z l_tp l_o0 l_o1 l_o2 l_o3 l_n0 l_n1 l_n2 l_n3 : Int32) (u0 : SU) (hL : TyX (mkL tw l_s l_t l_i l_kp l_iz l_z l_tp l_o0 l_o1 l_o2 l_o3 l_n0 l_n1 l_n2 l_n3)) (hN : N = 0 ∨ N = 24576) : Met l yX0_draw wsX0_draw ({ frames := 0, cells := 0, slots := 0, locals := 0 }) (PQ D cI cS (wX cI cS a na nc N (mkL tw l_s l_t l_i l_kp l_iz l_z l_tp l_o0 l_o1 l_o2 l_o3 l_n0 l_n1 l_n2 l_n3) u0) sz [.ref (a 20)]) (QF (S := Int32 × SU) D (wX cI cS a na nc N (mkL tw l_s l_t l_i l_kp l_iz l_z l_tp l_o0 l_o1 l_o2 l_o3 l_n0 l_n1 l_n2 l_n3) u0) (fun q => wX cI cS a na nc N (mkL tw l_s l_t l_i l_kp l_iz q.1 l_tp l_o0 l_o1 l_o2 l_o3 l_n0 l_n1 l_n2 l_n3) q.2) sz (fun r q => Rg (-2147483648) 2147483647 r ∧ (q.1 = zsN l_z) ∧ (r = drw l_z) ∧ (q.2 2 = u0 2))) 0 0 (va_A (wX cI cS a na nc N (mkL tw l_s l_t l_i l_kp l_iz l_z l_tp l_o0 l_o1 l_o2 l_o3 l_n0 l_n1 l_n2 l_n3) u0) sz) := by
  refine Met.ofW (cc := cX0_draw) (maxL := 1) (ret := (some .int)) (by decide) rfl ?_
  intro p e s m args below meth c s₁ B hml hv
  obtain ⟨rfl, hsz, hP, hKK, hD0⟩ := hv
  have hx := B.exec
  have hb := B.bytes
  have hr := B.returns
  have hts := atoms_spec (ws := wsX0_draw) B.pre
  have hown : s.vm.findClass RX0 = some m.cls := findClass_of_methodNamed B.named
  have hlocks := B.notSynchronized
  have hK := hKK.1
  have hin0 : ∀ w ∈ wsX00, w ∈ wsX0_draw := by decide +kernel
  subst hsz
  have hD := hD0.self (sz := s.heap.size)
  obtain ⟨A, hAe⟩ : ∃ A, A = va_A (wX cI cS a na nc N (mkL tw l_s l_t l_i l_kp l_iz l_z l_tp l_o0 l_o1 l_o2 l_o3 l_n0 l_n1 l_n2 l_n3) u0) s.heap.size := ⟨_, rfl⟩
  rw [← hAe] at hD
  have hA : ∀ q : Nat, s.heap.size ≤ q → A q := fun q h => by rw [hAe]; exact Or.inr h
  have hS : va_S A s.heap s.heap [] := va_S.rf
  have hl := lv_entry ([.ref (a 20)]) (n := 1) (Nat.le_of_ble_eq_true rfl)
  rw [lg_entry_eq]
  generalize (lg_sl ([.ref (a 20)]) ++ List.replicate (1 - (lg_sl ([.ref (a 20)])).length) Slot.unset).toArray = ls at hl ⊢
  have hl : lv_has ls 1 [(0, .ref (a 20))] := hl
  obtain ⟨u, hu9⟩ : ∃ u : SU, u = u0 := ⟨_, rfl⟩
  rw [← hu9] at hP hD
  have p_s : Rg 0 12 l_s := hL.1
  have p_t : Rg 0 12 l_t := hL.2.1
  have p_i : Rg 0 12 l_i := hL.2.2.1
  have p_tp : Rg 0 120 l_tp := hL.2.2.2.1
  have p_n0 : Rg 0 40 l_n0 := hL.2.2.2.2.1
  have p_n1 : Rg 0 40 l_n1 := hL.2.2.2.2.2.1
  have p_n2 : Rg 0 40 l_n2 := hL.2.2.2.2.2.2.1
  have p_n3 : Rg 0 40 l_n3 := hL.2.2.2.2.2.2.2
  refine lv_aload_n hx hb dX0_draw_0 rfl (lv_at hl 0 rfl) ?_
  refine lv_aload_n hx hb dX0_draw_1 rfl (lv_at hl 0 rfl) ?_
  refine va_get (D := D) (ci := 0) (v := .int l_z) (C := RX0) (T := TX0) (N := 1) hx hb hts hin0 hown hK hP 20 rfl rfl 0 (by decide) (hts (.fieldLink RX0 7 "MissedPoints$Draws" "z" "I") (by decide +kernel)) (fun _ h9 => h9) rfl dX0_draw_2 ?_
  refine lv_ldc hx hb hown (hts (.constant RX0 13 (1103515245)) (by decide +kernel)) dX0_draw_5 ?_
  refine lv_imul hx hb dX0_draw_7 ?_
  refine wk_topP (P := fun r => r = l_z * (1103515245 : Int32)) rfl (fun r50479 qr50479 => ?_)
  refine lv_sipush (v := 12345) hx hb dX0_draw_8 (by decide) ?_
  refine lv_iadd hx hb dX0_draw_11 ?_
  refine wk_topP (P := fun r => r = r50479 + (12345 : Int32)) rfl (fun r50480 qr50480 => ?_)
  refine va_put (D := D) (ci := 0) (v := .int r50480) (ty := .int) (C := RX0) (T := TX0) (N := 1) hx hb hts hin0 tyX0 tyX0_ok nmX0 hown hK hP hD hS 20 rfl rfl 0 (by decide) (hts (.fieldLink RX0 7 "MissedPoints$Draws" "z" "I") (by decide +kernel)) (fun _ h9 => h9) rfl (by decide +kernel) rfl rfl (Nat.le_of_ble_eq_true rfl) dX0_draw_12 (fun H locs hP hD hS => ?_)
  have hP : va_P D cls (wX cI cS a na nc N (mkL tw l_s l_t l_i l_kp l_iz r50480 l_tp l_o0 l_o1 l_o2 l_o3 l_n0 l_n1 l_n2 l_n3) u) H := hP
  have hD : va_D A (wX cI cS a na nc N (mkL tw l_s l_t l_i l_kp l_iz r50480 l_tp l_o0 l_o1 l_o2 l_o3 l_n0 l_n1 l_n2 l_n3) u) := hD
  refine lv_aload_n hx hb dX0_draw_15 rfl (lv_at hl 0 rfl) ?_
  refine va_get (D := D) (ci := 0) (v := .int r50480) (C := RX0) (T := TX0) (N := 1) hx hb hts hin0 hown hK hP 20 rfl rfl 0 (by decide) (hts (.fieldLink RX0 7 "MissedPoints$Draws" "z" "I") (by decide +kernel)) (fun _ h9 => h9) rfl dX0_draw_16 ?_
  refine lv_bipush (v := 16) hx hb dX0_draw_19 (by decide) ?_
  refine lv_iushr hx hb dX0_draw_21 rfl ?_
  refine wk_topP (P := fun r => r = (Int32.toUInt32 r50480 >>> (Int32.toUInt32 16 &&& Int32.toUInt32 31)).toInt32) rfl (fun r50481 qr50481 => ?_)
  subst hAe
  exact W.iret (v := r50481) hx hb hr (fun t ht hW => ⟨⟨_, (r50480, u), rfl, ⟨(rg_any r50481), (by rw [qr50480, qr50479]; rfl), (by rw [qr50481, qr50480, qr50479]; rfl), (by show u 2 = u0 2; rw [hu9])⟩, by rw [ht]; exact hP, hD⟩, hS.F ht⟩) hS.2.2 dX0_draw_22
set_option maxHeartbeats 4000000 in
set_option maxRecDepth 100000 in
theorem k_X2_add_D (l : Launch) (D : va_G) (cI cS : ClassId) (sz : Nat) (a : Nat → Nat) (na nc N : Nat) (tw : SU) (l_s l_t l_i l_kp l_iz l_z l_tp l_o0 l_o1 l_o2 l_o3 l_n0 l_n1 l_n2 l_n3 : Int32) (u0 : SU) (hL : TyX (mkL tw l_s l_t l_i l_kp l_iz l_z l_tp l_o0 l_o1 l_o2 l_o3 l_n0 l_n1 l_n2 l_n3)) (hN : N = 0 ∨ N = 24576) (x0 : Int32) (px0 : Rg 0 12 x0) : Met l yX2_add wsX2_add ({ frames := 1, cells := 0, slots := 0, locals := 40 }) (PQ D cI cS (wX cI cS a na nc N (mkL tw l_s l_t l_i l_kp l_iz l_z l_tp l_o0 l_o1 l_o2 l_o3 l_n0 l_n1 l_n2 l_n3) u0) sz [.ref (a 1), .int x0]) (QE (S := Int32 × SU) D (wX cI cS a na nc N (mkL tw l_s l_t l_i l_kp l_iz l_z l_tp l_o0 l_o1 l_o2 l_o3 l_n0 l_n1 l_n2 l_n3) u0) (fun q => wX cI cS a na nc N (mkL tw q.1 l_t l_i l_kp l_iz l_z l_tp l_o0 l_o1 l_o2 l_o3 l_n0 l_n1 l_n2 l_n3) q.2) sz (fun q => Rg 0 12 q.1 ∧ ((l_s.toInt + x0.toInt ≤ 12 → q.1.toInt = l_s.toInt + x0.toInt)) ∧ (q.2 2 = u0 2))) 0 0 (va_A (wX cI cS a na nc N (mkL tw l_s l_t l_i l_kp l_iz l_z l_tp l_o0 l_o1 l_o2 l_o3 l_n0 l_n1 l_n2 l_n3) u0) sz) := by
  refine Met.ofW (cc := cX2_add) (maxL := 2) (ret := none) (by decide) rfl ?_
  intro p e s m args below meth c s₁ B hml hv
  obtain ⟨rfl, hsz, hP, hKK, hD0⟩ := hv
  have hx := B.exec
  have hb := B.bytes
  have hr := B.returns
  have hts := atoms_spec (ws := wsX2_add) B.pre
  have hown : s.vm.findClass RX2 = some m.cls := findClass_of_methodNamed B.named
  have hlocks := B.notSynchronized
  have hK := hKK.1
  have hin2 : ∀ w ∈ wsX20, w ∈ wsX2_add := by decide +kernel
  subst hsz
  have hD := hD0.self (sz := s.heap.size)
  obtain ⟨A, hAe⟩ : ∃ A, A = va_A (wX cI cS a na nc N (mkL tw l_s l_t l_i l_kp l_iz l_z l_tp l_o0 l_o1 l_o2 l_o3 l_n0 l_n1 l_n2 l_n3) u0) s.heap.size := ⟨_, rfl⟩
  rw [← hAe] at hD
  have hA : ∀ q : Nat, s.heap.size ≤ q → A q := fun q h => by rw [hAe]; exact Or.inr h
  have hS : va_S A s.heap s.heap [] := va_S.rf
  have hl := lv_entry ([.ref (a 1), .int x0]) (n := 2) (Nat.le_of_ble_eq_true rfl)
  rw [lg_entry_eq]
  generalize (lg_sl ([.ref (a 1), .int x0]) ++ List.replicate (2 - (lg_sl ([.ref (a 1), .int x0])).length) Slot.unset).toArray = ls at hl ⊢
  have hl : lv_has ls 2 [(0, .ref (a 1)), (1, .int x0)] := hl
  obtain ⟨u, hu9⟩ : ∃ u : SU, u = u0 := ⟨_, rfl⟩
  rw [← hu9] at hP hD
  have p_s : Rg 0 12 l_s := hL.1
  have p_t : Rg 0 12 l_t := hL.2.1
  have p_i : Rg 0 12 l_i := hL.2.2.1
  have p_tp : Rg 0 120 l_tp := hL.2.2.2.1
  have p_n0 : Rg 0 40 l_n0 := hL.2.2.2.2.1
  have p_n1 : Rg 0 40 l_n1 := hL.2.2.2.2.2.1
  have p_n2 : Rg 0 40 l_n2 := hL.2.2.2.2.2.2.1
  have p_n3 : Rg 0 40 l_n3 := hL.2.2.2.2.2.2.2
  refine lv_aload_n hx hb dX2_add_0 rfl (lv_at hl 0 rfl) ?_
  refine lv_aload_n hx hb dX2_add_1 rfl (lv_at hl 0 rfl) ?_
  refine va_get (D := D) (ci := 2) (v := .int l_s) (C := RX2) (T := TX2) (N := 3) hx hb hts hin2 hown hK hP 1 rfl rfl 1 (by decide) (hts (.fieldLink RX2 15 "MissedPoints$Net" "size" "I") (by decide +kernel)) (fun _ h9 => h9) rfl dX2_add_2 ?_
  refine lv_iload_n hx hb dX2_add_5 rfl (lv_at hl 1 rfl) ?_
  refine wk_iadd (e1 := 0) (f := 24) hx hb dX2_add_6 p_s px0 (by decide) (fun r50488 hr50488 er50488 qr50488 => ?_)
  refine lv_bipush (v := 12) hx hb dX2_add_7 (by decide) ?_
  refine va_mmin hx hb (by rw [hml]; exact hl.1.symm) hown (hts (.methodLink RX2 27 Lib.Math.min.name) (by decide +kernel)) (hts (.static Lib.Math.min.name) (by decide +kernel)) (hts (.initialized "java/lang/Math") (by decide +kernel)) (hts (.code Lib.Math.min.name Lib.Math.min.code 2 (some .int)) (by decide +kernel)) (Nat.le_of_ble_eq_true rfl) (Nat.le_of_ble_eq_true rfl) (Nat.le_of_ble_eq_true rfl) (Nat.le_of_ble_eq_true rfl) dX2_add_9 ?_
  refine wk_topP (P := fun r => Rg 0 12 r ∧ (r.toInt ≤ r50488.toInt ∧ r.toInt ≤ (12 : Int32).toInt) ∧ (r.toInt = r50488.toInt ∨ r.toInt = (12 : Int32).toInt)) ⟨wk_min hr50488 (by decide : Rg 12 12 (12 : Int32)) (by decide), ⟨⟨wk_minE.1, wk_minE.2.1⟩, wk_minE.2.2⟩⟩ (fun r50489 hr50489 => ?_)
  refine va_put (D := D) (ci := 2) (v := .int r50489) (ty := .int) (C := RX2) (T := TX2) (N := 3) hx hb hts hin2 tyX2 tyX2_ok nmX2 hown hK hP hD hS 1 rfl rfl 1 (by decide) (hts (.fieldLink RX2 15 "MissedPoints$Net" "size" "I") (by decide +kernel)) (fun _ h9 => h9) rfl (by decide +kernel) rfl rfl (Nat.le_of_ble_eq_true rfl) dX2_add_12 (fun H locs hP hD hS => ?_)
  have hP : va_P D cls (wX cI cS a na nc N (mkL tw r50489 l_t l_i l_kp l_iz l_z l_tp l_o0 l_o1 l_o2 l_o3 l_n0 l_n1 l_n2 l_n3) u) H := hP
  have hD : va_D A (wX cI cS a na nc N (mkL tw r50489 l_t l_i l_kp l_iz l_z l_tp l_o0 l_o1 l_o2 l_o3 l_n0 l_n1 l_n2 l_n3) u) := hD
  refine lv_aload_n hx hb dX2_add_15 rfl (lv_at hl 0 rfl) ?_
  refine lv_dup hx hb dX2_add_16 rfl ?_
  refine va_get (D := D) (ci := 2) (v := .int (u 1 2)) (C := RX2) (T := TX2) (N := 3) hx hb hts hin2 hown hK hP 1 rfl rfl 2 (by decide) (hts (.fieldLink RX2 33 "MissedPoints$Net" "changes" "I") (by decide +kernel)) (fun _ h9 => h9) rfl dX2_add_17 ?_
  refine wk_any (fun r50490 => ?_)
  refine lv_iconst (v := 1) hx hb dX2_add_20 (by decide) ?_
  refine lv_iadd hx hb dX2_add_21 ?_
  refine wk_topP (P := fun r => r = r50490 + (1 : Int32)) rfl (fun r50491 qr50491 => ?_)
  refine va_put (D := D) (ci := 2) (v := .int r50491) (ty := .int) (C := RX2) (T := TX2) (N := 3) hx hb hts hin2 tyX2 tyX2_ok nmX2 hown hK hP hD hS 1 rfl rfl 2 (by decide) (hts (.fieldLink RX2 33 "MissedPoints$Net" "changes" "I") (by decide +kernel)) (fun _ h9 => h9) rfl (by decide +kernel) rfl rfl (Nat.le_of_ble_eq_true rfl) dX2_add_22 (fun H locs hP hD hS => ?_)
  rw [sxf_1_2] at hP hD
  generalize ev50493 : sU u 1 _ = u50492 at hP hD
  have sev50493 : u50492 2 = u 2 := by rw [← ev50493]; rfl
  subst hAe
  exact W.vret hx hb hr (fun t ht hW => ⟨⟨(r50489, u50492), rfl, ⟨hr50489.1, (show (l_s.toInt + x0.toInt ≤ 12 → r50489.toInt = l_s.toInt + x0.toInt) from by have y90 : Rg 0 12 x0 := px0; have y91 : Rg 0 12 r50489 := hr50489.1; have y92 : Rg 0 12 l_t := p_t; have y93 : Rg 0 12 l_i := p_i; have y94 : Rg 0 120 l_tp := p_tp; have y95 : Rg 0 40 l_n0 := p_n0; have y96 : Rg 0 40 l_n1 := p_n1; have y97 : Rg 0 40 l_n2 := p_n2; have y98 : Rg 0 40 l_n3 := p_n3; have y9c9 : (0 : Int32).toInt = 0 := (by decide); have y9c10 : (1 : Int32).toInt = 1 := (by decide); have y9c11 : (12 : Int32).toInt = 12 := (by decide); omega), (by show u50492 2 = u0 2; rw [sev50493, hu9])⟩, by rw [ht]; exact hP, hD⟩, hS.F ht⟩) hS.2.2 dX2_add_25
set_option maxHeartbeats 4000000 in
set_option maxRecDepth 100000 in
theorem k_X2_empty_D (l : Launch) (D : va_G) (cI cS : ClassId) (sz : Nat) (a : Nat → Nat) (na nc N : Nat) (tw : SU) (l_s l_t l_i l_kp l_iz l_z l_tp l_o0 l_o1 l_o2 l_o3 l_n0 l_n1 l_n2 l_n3 : Int32) (u0 : SU) (hL : TyX (mkL tw l_s l_t l_i l_kp l_iz l_z l_tp l_o0 l_o1 l_o2 l_o3 l_n0 l_n1 l_n2 l_n3)) (hN : N = 0 ∨ N = 24576) : Met l yX2_empty wsX2_empty ({ frames := 0, cells := 0, slots := 0, locals := 0 }) (PQ D cI cS (wX cI cS a na nc N (mkL tw l_s l_t l_i l_kp l_iz l_z l_tp l_o0 l_o1 l_o2 l_o3 l_n0 l_n1 l_n2 l_n3) u0) sz [.ref (a 1)]) (QE (S := Int32 × SU) D (wX cI cS a na nc N (mkL tw l_s l_t l_i l_kp l_iz l_z l_tp l_o0 l_o1 l_o2 l_o3 l_n0 l_n1 l_n2 l_n3) u0) (fun q => wX cI cS a na nc N (mkL tw q.1 l_t l_i l_kp l_iz l_z l_tp l_o0 l_o1 l_o2 l_o3 l_n0 l_n1 l_n2 l_n3) q.2) sz (fun q => Rg 0 0 q.1 ∧ (q.1.toInt = 0) ∧ (∀ j, j < 12 → q.2 2 j = 0))) 0 0 (va_A (wX cI cS a na nc N (mkL tw l_s l_t l_i l_kp l_iz l_z l_tp l_o0 l_o1 l_o2 l_o3 l_n0 l_n1 l_n2 l_n3) u0) sz) := by
  refine Met.ofW (cc := cX2_empty) (maxL := 2) (ret := none) (by decide) rfl ?_
  intro p e s m args below meth c s₁ B hml hv
  obtain ⟨rfl, hsz, hP, hKK, hD0⟩ := hv
  have hx := B.exec
  have hb := B.bytes
  have hr := B.returns
  have hts := atoms_spec (ws := wsX2_empty) B.pre
  have hown : s.vm.findClass RX2 = some m.cls := findClass_of_methodNamed B.named
  have hlocks := B.notSynchronized
  have hK := hKK.1
  have hin2 : ∀ w ∈ wsX20, w ∈ wsX2_empty := by decide +kernel
  subst hsz
  have hD := hD0.self (sz := s.heap.size)
  obtain ⟨A, hAe⟩ : ∃ A, A = va_A (wX cI cS a na nc N (mkL tw l_s l_t l_i l_kp l_iz l_z l_tp l_o0 l_o1 l_o2 l_o3 l_n0 l_n1 l_n2 l_n3) u0) s.heap.size := ⟨_, rfl⟩
  rw [← hAe] at hD
  have hA : ∀ q : Nat, s.heap.size ≤ q → A q := fun q h => by rw [hAe]; exact Or.inr h
  have hS : va_S A s.heap s.heap [] := va_S.rf
  have hl := lv_entry ([.ref (a 1)]) (n := 2) (Nat.le_of_ble_eq_true rfl)
  rw [lg_entry_eq]
  generalize (lg_sl ([.ref (a 1)]) ++ List.replicate (2 - (lg_sl ([.ref (a 1)])).length) Slot.unset).toArray = ls at hl ⊢
  have hl : lv_has ls 2 [(0, .ref (a 1))] := hl
  obtain ⟨u, hu9⟩ : ∃ u : SU, u = u0 := ⟨_, rfl⟩
  rw [← hu9] at hP hD
  have p_s : Rg 0 12 l_s := hL.1
  have p_t : Rg 0 12 l_t := hL.2.1
  have p_i : Rg 0 12 l_i := hL.2.2.1
  have p_tp : Rg 0 120 l_tp := hL.2.2.2.1
  have p_n0 : Rg 0 40 l_n0 := hL.2.2.2.2.1
  have p_n1 : Rg 0 40 l_n1 := hL.2.2.2.2.2.1
  have p_n2 : Rg 0 40 l_n2 := hL.2.2.2.2.2.2.1
  have p_n3 : Rg 0 40 l_n3 := hL.2.2.2.2.2.2.2
  have lp2 : ∀ (n2 : Nat) (y2_l1 : Int32) (u : SU) (H : Heap) (locs : List Loc) (ls : Array Slot), Rg 0 12 y2_l1 → Rg 0 12 l_s → (∀ j, j < y2_l1.toNatClampNeg → u 2 j = 0) → va_P D cls (wX cI cS a na nc N (mkL tw l_s l_t l_i l_kp l_iz l_z l_tp l_o0 l_o1 l_o2 l_o3 l_n0 l_n1 l_n2 l_n3) u) H → va_D A (wX cI cS a na nc N (mkL tw l_s l_t l_i l_kp l_iz l_z l_tp l_o0 l_o1 l_o2 l_o3 l_n0 l_n1 l_n2 l_n3) u) → va_S A s.heap H locs → lv_has ls 2 [(0, .ref (a 1)), (1, .int y2_l1)] → 12 - y2_l1.toInt < (n2 : Int) → W p l e (headSpec wsX2_empty ({ frames := 0, cells := 0, slots := 0, locals := 0 })).room s m ([.ref (a 1)]).toArray below meth c H locs 0 0 (MQ below (QE (S := Int32 × SU) D (wX cI cS a na nc N (mkL tw l_s l_t l_i l_kp l_iz l_z l_tp l_o0 l_o1 l_o2 l_o3 l_n0 l_n1 l_n2 l_n3) u0) (fun q => wX cI cS a na nc N (mkL tw q.1 l_t l_i l_kp l_iz l_z l_tp l_o0 l_o1 l_o2 l_o3 l_n0 l_n1 l_n2 l_n3) q.2) s.heap.size (fun q => Rg 0 0 q.1 ∧ (q.1.toInt = 0) ∧ (∀ j, j < 12 → q.2 2 j = 0))) ([.ref (a 1)]).toArray s 0 0 (va_A (wX cI cS a na nc N (mkL tw l_s l_t l_i l_kp l_iz l_z l_tp l_o0 l_o1 l_o2 l_o3 l_n0 l_n1 l_n2 l_n3) u0) s.heap.size)) (F0 m 2 ls []) := by
    intro n2
    induction n2 with
    | zero =>
      intro y2_l1 u H locs ls g2_l1 g2_ks x2_0 hP hD hS hl hm2
      exact absurd rfl (me_z g2_l1 hm2)
    | succ n2 ih2 =>
      intro y2_l1 u H locs ls g2_l1 g2_ks x2_0 hP hD hS hl hm2
      refine lv_iload_n hx hb dX2_empty_2 rfl (lv_at hl 1 rfl) ?_
      refine lv_bipush (v := 12) hx hb dX2_empty_3 (by decide) ?_
      refine lv_icmp_ge (tgt := 21) hx hb dX2_empty_5 (by decide) (fun c50536 => ?_) (fun c50536 => ?_)
      · have g50537 : Rg 12 12 y2_l1 := rg_ler (by decide : Rg 12 12 (12 : Int32)) g2_l1 c50536 (by decide)
        refine lv_aload_n hx hb dX2_empty_21 rfl (lv_at hl 0 rfl) ?_
        refine lv_iconst (v := 0) hx hb dX2_empty_22 (by decide) ?_
        refine va_put (D := D) (ci := 2) (v := .int 0) (ty := .int) (C := RX2) (T := TX2) (N := 3) hx hb hts hin2 tyX2 tyX2_ok nmX2 hown hK hP hD hS 1 rfl rfl 1 (by decide) (hts (.fieldLink RX2 15 "MissedPoints$Net" "size" "I") (by decide +kernel)) (fun _ h9 => h9) rfl (by decide +kernel) rfl rfl (Nat.le_of_ble_eq_true rfl) dX2_empty_23 (fun H locs hP hD hS => ?_)
        have hP : va_P D cls (wX cI cS a na nc N (mkL tw (0 : Int32) l_t l_i l_kp l_iz l_z l_tp l_o0 l_o1 l_o2 l_o3 l_n0 l_n1 l_n2 l_n3) u) H := hP
        have hD : va_D A (wX cI cS a na nc N (mkL tw (0 : Int32) l_t l_i l_kp l_iz l_z l_tp l_o0 l_o1 l_o2 l_o3 l_n0 l_n1 l_n2 l_n3) u) := hD
        refine lv_aload_n hx hb dX2_empty_26 rfl (lv_at hl 0 rfl) ?_
        refine lv_dup hx hb dX2_empty_27 rfl ?_
        refine va_get (D := D) (ci := 2) (v := .int (u 1 2)) (C := RX2) (T := TX2) (N := 3) hx hb hts hin2 hown hK hP 1 rfl rfl 2 (by decide) (hts (.fieldLink RX2 33 "MissedPoints$Net" "changes" "I") (by decide +kernel)) (fun _ h9 => h9) rfl dX2_empty_28 ?_
        refine wk_any (fun r50538 => ?_)
        refine lv_iconst (v := 1) hx hb dX2_empty_31 (by decide) ?_
        refine lv_iadd hx hb dX2_empty_32 ?_
        refine wk_topP (P := fun r => r = r50538 + (1 : Int32)) rfl (fun r50539 qr50539 => ?_)
        refine va_put (D := D) (ci := 2) (v := .int r50539) (ty := .int) (C := RX2) (T := TX2) (N := 3) hx hb hts hin2 tyX2 tyX2_ok nmX2 hown hK hP hD hS 1 rfl rfl 2 (by decide) (hts (.fieldLink RX2 33 "MissedPoints$Net" "changes" "I") (by decide +kernel)) (fun _ h9 => h9) rfl (by decide +kernel) rfl rfl (Nat.le_of_ble_eq_true rfl) dX2_empty_33 (fun H locs hP hD hS => ?_)
        rw [sxf_1_2] at hP hD
        generalize ev50541 : sU u 1 _ = u50540 at hP hD
        have sev50541 : u50540 2 = u 2 := by rw [← ev50541]; rfl
        subst hAe
        exact W.vret hx hb hr (fun t ht hW => ⟨⟨((0 : Int32), u50540), rfl, ⟨(by decide : Rg 0 0 (0 : Int32)), (show (0 : Int32).toInt = 0 from by have y90 : (12 : Int32).toInt ≤ y2_l1.toInt := (lz_le _ _).mp c50536; have y91 : Rg 12 12 y2_l1 := g50537; have y92 : Rg 12 12 y2_l1 := g50537; have y93 : Rg 0 12 l_t := p_t; have y94 : Rg 0 12 l_i := p_i; have y95 : Rg 0 120 l_tp := p_tp; have y96 : Rg 0 40 l_n0 := p_n0; have y97 : Rg 0 40 l_n1 := p_n1; have y98 : Rg 0 40 l_n2 := p_n2; have y99 : Rg 0 40 l_n3 := p_n3; have y9c10 : (0 : Int32).toInt = 0 := (by decide); have y9c11 : (1 : Int32).toInt = 1 := (by decide); have y9c12 : (12 : Int32).toInt = 12 := (by decide); omega), (fun j hj => by show u50540 2 j = 0; rw [sev50541]; exact x2_0 j (by have y90 : (12 : Int32).toInt ≤ y2_l1.toInt := (lz_le _ _).mp c50536; have y91 : Rg 12 12 y2_l1 := g50537; have y92 : Rg 12 12 y2_l1 := g50537; have y93 : Rg 0 12 l_t := p_t; have y94 : Rg 0 12 l_i := p_i; have y95 : Rg 0 120 l_tp := p_tp; have y96 : Rg 0 40 l_n0 := p_n0; have y97 : Rg 0 40 l_n1 := p_n1; have y98 : Rg 0 40 l_n2 := p_n2; have y99 : Rg 0 40 l_n3 := p_n3; have y9c10 : (0 : Int32).toInt = 0 := (by decide); have y9c11 : (1 : Int32).toInt = 1 := (by decide); have y9c12 : (12 : Int32).toInt = 12 := (by decide); skip; have e1 : y2_l1.toNatClampNeg = y2_l1.toInt.toNat := rfl; omega))⟩, by rw [ht]; exact hP, hD⟩, hS.F ht⟩) hS.2.2 dX2_empty_36
      · have g50542 : Rg 0 11 y2_l1 := rg_ltl g2_l1 (by decide : Rg 12 12 (12 : Int32)) (rg_nle c50536) (by decide)
        refine lv_aload_n hx hb dX2_empty_8 rfl (lv_at hl 0 rfl) ?_
        refine va_get (D := D) (ci := 2) (v := .ref (a 2)) (C := RX2) (T := TX2) (N := 3) hx hb hts hin2 hown hK hP 1 rfl rfl 0 (by decide) (hts (.fieldLink RX2 9 "MissedPoints$Net" "links" "[I") (by decide +kernel)) (fun _ h9 => h9) rfl dX2_empty_9 ?_
        refine lv_iload_n hx hb dX2_empty_12 rfl (lv_at hl 1 rfl) ?_
        refine lv_iconst (v := 0) hx hb dX2_empty_13 (by decide) ?_
        refine ks_astE hx hb hK hP hD hS rfl (k := 2) rfl sx_2 (rg_in g50542 (by decide) (by decide)) dX2_empty_14 (fun u50543 H locs ev50544 hP hD hS => ?_)
        refine wk_iinc (lv' := fun r => [(1, .int r), (0, .ref (a 1))]) (e1 := 1) (f := 12) hx hb dX2_empty_15 hl (k := 1) rfl (by decide) g50542 (by decide) (fun _ => rfl) (fun r50545 ls hr50545 er50545 hl => ?_)
        refine lv_goto (tgt := 2) hx hb dX2_empty_18 (by decide) ?_
        exact ih2 r50545 u50543 _ _ ls (show Rg 0 12 r50545 from rg_w hr50545 (by decide) (by decide)) g2_ks (by exact pd_zX x2_0 g2_l1.1 er50545 ev50544) hP hD hS (lv_sub (l' := [(0, .ref (a 1)), (1, .int r50545)]) hl [1, 0] rfl) (me_up hm2 er50545 (by decide))
  refine lv_iconst (v := 0) hx hb dX2_empty_0 (by decide) ?_
  refine lv_istore_n (lv' := [(1, .int 0), (0, .ref (a 1))]) hx hb dX2_empty_1 rfl hl (by decide) rfl (fun ls hl => ?_)
  exact lp2 13 (0 : Int32) u _ _ ls (by decide : Rg 0 12 (0 : Int32)) p_s (by exact fun j hj => absurd hj (Nat.not_lt_zero j)) hP hD hS (lv_sub (l' := [(0, .ref (a 1)), (1, .int 0)]) hl [1, 0] rfl) (me_i (by decide : Rg 0 12 (0 : Int32)) (by decide))
set_option maxHeartbeats 4000000 in
set_option maxRecDepth 100000 in
theorem k_X2_dealAnew_D (l : Launch) (D : va_G) (cI cS : ClassId) (sz : Nat) (a : Nat → Nat) (na nc N : Nat) (tw : SU) (l_s l_t l_i l_kp l_iz l_z l_tp l_o0 l_o1 l_o2 l_o3 l_n0 l_n1 l_n2 l_n3 : Int32) (u0 : SU) (hL : TyX (mkL tw l_s l_t l_i l_kp l_iz l_z l_tp l_o0 l_o1 l_o2 l_o3 l_n0 l_n1 l_n2 l_n3)) (hN : N = 0 ∨ N = 24576) (x0 x1 : Int32) (px0 : Rg 0 12 x0) : Met l yX2_dealAnew wsX2_dealAnew ({ frames := 3, cells := 0, slots := 0, locals := 120 }) (PQ D cI cS (wX cI cS a na nc N (mkL tw l_s l_t l_i l_kp l_iz l_z l_tp l_o0 l_o1 l_o2 l_o3 l_n0 l_n1 l_n2 l_n3) u0) sz [.ref (a 1), .int x0, .int x1, .ref (a 20)]) (QE (S := Int32 × Int32 × SU) D (wX cI cS a na nc N (mkL tw l_s l_t l_i l_kp l_iz l_z l_tp l_o0 l_o1 l_o2 l_o3 l_n0 l_n1 l_n2 l_n3) u0) (fun q => wX cI cS a na nc N (mkL tw q.1 l_t l_i l_kp l_iz q.2.1 l_tp l_o0 l_o1 l_o2 l_o3 l_n0 l_n1 l_n2 l_n3) q.2.2) sz (fun q => Rg 0 12 q.1 ∧ (q.1.toInt = x0.toInt) ∧ (∃ a9, PO x0 x1 l_z (q.2.2 2) q.2.1 a9 ∧ a9.toInt = x0.toInt))) 0 0 (va_A (wX cI cS a na nc N (mkL tw l_s l_t l_i l_kp l_iz l_z l_tp l_o0 l_o1 l_o2 l_o3 l_n0 l_n1 l_n2 l_n3) u0) sz) := by
  refine Met.ofW (cc := cX2_dealAnew) (maxL := 6) (ret := none) (by decide) rfl ?_
  intro p e s m args below meth c s₁ B hml hv
  obtain ⟨rfl, hsz, hP, hKK, hD0⟩ := hv
  have hx := B.exec
  have hb := B.bytes
  have hr := B.returns
  have hts := atoms_spec (ws := wsX2_dealAnew) B.pre
  have hown : s.vm.findClass RX2 = some m.cls := findClass_of_methodNamed B.named
  have hlocks := B.notSynchronized
  have hK := hKK.1
  have hin2 : ∀ w ∈ wsX20, w ∈ wsX2_dealAnew := by decide +kernel
  subst hsz
  have hD := hD0.self (sz := s.heap.size)
  obtain ⟨A, hAe⟩ : ∃ A, A = va_A (wX cI cS a na nc N (mkL tw l_s l_t l_i l_kp l_iz l_z l_tp l_o0 l_o1 l_o2 l_o3 l_n0 l_n1 l_n2 l_n3) u0) s.heap.size := ⟨_, rfl⟩
  rw [← hAe] at hD
  have hA : ∀ q : Nat, s.heap.size ≤ q → A q := fun q h => by rw [hAe]; exact Or.inr h
  have hS : va_S A s.heap s.heap [] := va_S.rf
  have hl := lv_entry ([.ref (a 1), .int x0, .int x1, .ref (a 20)]) (n := 6) (Nat.le_of_ble_eq_true rfl)
  rw [lg_entry_eq]
  generalize (lg_sl ([.ref (a 1), .int x0, .int x1, .ref (a 20)]) ++ List.replicate (6 - (lg_sl ([.ref (a 1), .int x0, .int x1, .ref (a 20)])).length) Slot.unset).toArray = ls at hl ⊢
  have hl : lv_has ls 6 [(0, .ref (a 1)), (1, .int x0), (2, .int x1), (3, .ref (a 20))] := hl
  obtain ⟨u, hu9⟩ : ∃ u : SU, u = u0 := ⟨_, rfl⟩
  rw [← hu9] at hP hD
  have p_s : Rg 0 12 l_s := hL.1
  have p_t : Rg 0 12 l_t := hL.2.1
  have p_i : Rg 0 12 l_i := hL.2.2.1
  have p_tp : Rg 0 120 l_tp := hL.2.2.2.1
  have p_n0 : Rg 0 40 l_n0 := hL.2.2.2.2.1
  have p_n1 : Rg 0 40 l_n1 := hL.2.2.2.2.2.1
  have p_n2 : Rg 0 40 l_n2 := hL.2.2.2.2.2.2.1
  have p_n3 : Rg 0 40 l_n3 := hL.2.2.2.2.2.2.2
  have lp12 : ∀ (n12 : Nat) (y12_l4 : Int32) (y12_ks : Int32) (y12_kz : Int32) (u : SU) (H : Heap) (locs : List Loc) (ls : Array Slot), Rg 0 12 y12_l4 → Rg 0 12 y12_ks → (y12_ks.toInt = x0.toInt ∧ PO x0 x1 l_z (u 2) y12_kz y12_l4 ∧ y12_l4.toInt ≤ x0.toInt) → va_P D cls (wX cI cS a na nc N (mkL tw y12_ks l_t l_i l_kp l_iz y12_kz l_tp l_o0 l_o1 l_o2 l_o3 l_n0 l_n1 l_n2 l_n3) u) H → va_D A (wX cI cS a na nc N (mkL tw y12_ks l_t l_i l_kp l_iz y12_kz l_tp l_o0 l_o1 l_o2 l_o3 l_n0 l_n1 l_n2 l_n3) u) → va_S A s.heap H locs → lv_has ls 6 [(0, .ref (a 1)), (2, .int x1), (3, .ref (a 20)), (4, .int y12_l4)] → 12 - y12_l4.toInt < (n12 : Int) → W p l e (headSpec wsX2_dealAnew ({ frames := 3, cells := 0, slots := 0, locals := 120 })).room s m ([.ref (a 1), .int x0, .int x1, .ref (a 20)]).toArray below meth c H locs 0 0 (MQ below (QE (S := Int32 × Int32 × SU) D (wX cI cS a na nc N (mkL tw l_s l_t l_i l_kp l_iz l_z l_tp l_o0 l_o1 l_o2 l_o3 l_n0 l_n1 l_n2 l_n3) u0) (fun q => wX cI cS a na nc N (mkL tw q.1 l_t l_i l_kp l_iz q.2.1 l_tp l_o0 l_o1 l_o2 l_o3 l_n0 l_n1 l_n2 l_n3) q.2.2) s.heap.size (fun q => Rg 0 12 q.1 ∧ (q.1.toInt = x0.toInt) ∧ (∃ a9, PO x0 x1 l_z (q.2.2 2) q.2.1 a9 ∧ a9.toInt = x0.toInt))) ([.ref (a 1), .int x0, .int x1, .ref (a 20)]).toArray s 0 0 (va_A (wX cI cS a na nc N (mkL tw l_s l_t l_i l_kp l_iz l_z l_tp l_o0 l_o1 l_o2 l_o3 l_n0 l_n1 l_n2 l_n3) u0) s.heap.size)) (F0 m 12 ls []) := by
    intro n12
    induction n12 with
    | zero =>
      intro y12_l4 y12_ks y12_kz u H locs ls g12_l4 g12_ks x12_0 hP hD hS hl hm12
      exact absurd rfl (me_z g12_l4 hm12)
    | succ n12 ih12 =>
      intro y12_l4 y12_ks y12_kz u H locs ls g12_l4 g12_ks x12_0 hP hD hS hl hm12
      have lp27 : ∀ (n27 : Nat) (y27_l5 : Int32) (y27_kz : Int32) (u : SU) (H : Heap) (locs : List Loc) (ls : Array Slot), Rg 0 11 y12_l4 → Rg 1 12 y27_l5 → Rg 1 12 y12_ks → (y12_ks.toInt = x0.toInt ∧ PI x0 x1 l_z (u 2) y27_kz y12_l4 y27_l5 ∧ y12_l4.toInt < y27_l5.toInt ∧ y27_l5.toInt ≤ x0.toInt) → va_P D cls (wX cI cS a na nc N (mkL tw y12_ks l_t l_i l_kp l_iz y27_kz l_tp l_o0 l_o1 l_o2 l_o3 l_n0 l_n1 l_n2 l_n3) u) H → va_D A (wX cI cS a na nc N (mkL tw y12_ks l_t l_i l_kp l_iz y27_kz l_tp l_o0 l_o1 l_o2 l_o3 l_n0 l_n1 l_n2 l_n3) u) → va_S A s.heap H locs → lv_has ls 6 [(0, .ref (a 1)), (2, .int x1), (3, .ref (a 20)), (4, .int y12_l4), (5, .int y27_l5)] → 12 - y27_l5.toInt < (n27 : Int) → W p l e (headSpec wsX2_dealAnew ({ frames := 3, cells := 0, slots := 0, locals := 120 })).room s m ([.ref (a 1), .int x0, .int x1, .ref (a 20)]).toArray below meth c H locs 0 0 (MQ below (QE (S := Int32 × Int32 × SU) D (wX cI cS a na nc N (mkL tw l_s l_t l_i l_kp l_iz l_z l_tp l_o0 l_o1 l_o2 l_o3 l_n0 l_n1 l_n2 l_n3) u0) (fun q => wX cI cS a na nc N (mkL tw q.1 l_t l_i l_kp l_iz q.2.1 l_tp l_o0 l_o1 l_o2 l_o3 l_n0 l_n1 l_n2 l_n3) q.2.2) s.heap.size (fun q => Rg 0 12 q.1 ∧ (q.1.toInt = x0.toInt) ∧ (∃ a9, PO x0 x1 l_z (q.2.2 2) q.2.1 a9 ∧ a9.toInt = x0.toInt))) ([.ref (a 1), .int x0, .int x1, .ref (a 20)]).toArray s 0 0 (va_A (wX cI cS a na nc N (mkL tw l_s l_t l_i l_kp l_iz l_z l_tp l_o0 l_o1 l_o2 l_o3 l_n0 l_n1 l_n2 l_n3) u0) s.heap.size)) (F0 m 27 ls []) := by
        intro n27
        induction n27 with
        | zero =>
          intro y27_l5 y27_kz u H locs ls g27_l4 g27_l5 g27_ks x27_0 hP hD hS hl hm27
          exact absurd rfl (me_z g27_l5 hm27)
        | succ n27 ih27 =>
          intro y27_l5 y27_kz u H locs ls g27_l4 g27_l5 g27_ks x27_0 hP hD hS hl hm27
          refine lv_iload hx hb dX2_dealAnew_27 (lv_at hl 4 rfl) ?_
          refine lv_aload_n hx hb dX2_dealAnew_29 rfl (lv_at hl 0 rfl) ?_
          refine va_get (D := D) (ci := 2) (v := .int y12_ks) (C := RX2) (T := TX2) (N := 3) hx hb hts hin2 hown hK hP 1 rfl rfl 1 (by decide) (hts (.fieldLink RX2 15 "MissedPoints$Net" "size" "I") (by decide +kernel)) (fun _ h9 => h9) rfl dX2_dealAnew_30 ?_
          refine lv_icmp_ge (tgt := 62) hx hb dX2_dealAnew_33 (by decide) (fun c50755 => ?_) (fun c50755 => ?_)
          · refine wk_iinc (lv' := fun r => [(4, .int r), (0, .ref (a 1)), (2, .int x1), (3, .ref (a 20)), (5, .int y27_l5)]) (e1 := 1) (f := 12) hx hb dX2_dealAnew_62 hl (k := 3) rfl (by decide) g27_l4 (by decide) (fun _ => rfl) (fun r50756 ls hr50756 er50756 hl => ?_)
            refine lv_goto (tgt := 12) hx hb dX2_dealAnew_65 (by decide) ?_
            exact ih12 r50756 y12_ks y27_kz u _ _ ls (show Rg 0 12 r50756 from rg_w hr50756 (by decide) (by decide)) (show Rg 0 12 y12_ks from rg_w g27_ks (by decide) (by decide)) (by have y90 : y12_ks.toInt ≤ y27_l5.toInt := (lz_le _ _).mp c50755; have y91 : Rg 1 12 r50756 := hr50756; have y92 : Rg 1 12 y27_l5 := g27_l5; have y93 : Rg 1 12 y12_ks := g27_ks; have y94 : Rg 0 12 l_t := p_t; have y95 : Rg 0 12 l_i := p_i; have y96 : Rg 0 120 l_tp := p_tp; have y97 : Rg 0 40 l_n0 := p_n0; have y98 : Rg 0 40 l_n1 := p_n1; have y99 : Rg 0 40 l_n2 := p_n2; have y910 : Rg 0 40 l_n3 := p_n3; have y9c11 : (0 : Int32).toInt = 0 := (by decide); have y9c12 : (1 : Int32).toInt = 1 := (by decide); skip; exact ⟨by omega, PI.out (b := y27_l5) x27_0.2.1 g12_l4.1 (by omega) (by omega) er50756, by omega⟩) hP hD hS (lv_sub (l' := [(0, .ref (a 1)), (2, .int x1), (3, .ref (a 20)), (4, .int r50756)]) hl [1, 2, 3, 0] rfl) (me_up hm12 er50756 (by decide))
          · have g50757 : Rg 2 12 y12_ks := rg_ltr g27_l5 g27_ks (rg_nle c50755) (by decide)
            have g50758 : Rg 1 11 y27_l5 := rg_ltl g27_l5 g27_ks (rg_nle c50755) (by decide)
            refine lv_aload_n hx hb dX2_dealAnew_36 rfl (lv_at hl 2 rfl) ?_
            refine wk_qi (S := Int32 × SU) (fun q => wX cI cS a na nc N (mkL tw y12_ks l_t l_i l_kp l_iz q.1 l_tp l_o0 l_o1 l_o2 l_o3 l_n0 l_n1 l_n2 l_n3) q.2) (y27_kz, u) (As := []) (rest := []) ⟨hx, hb, hml, hown, hts⟩ (k_X0_draw_D l D cI cS _ a na nc N tw y12_ks l_t l_i l_kp l_iz y27_kz l_tp l_o0 l_o1 l_o2 l_o3 l_n0 l_n1 l_n2 l_n3 u (show TyX (mkL tw y12_ks l_t l_i l_kp l_iz y27_kz l_tp l_o0 l_o1 l_o2 l_o3 l_n0 l_n1 l_n2 l_n3) from ⟨(show Rg 0 12 y12_ks from rg_w g50757 (by decide) (by decide)), p_t, p_i, p_tp, p_n0, p_n1, p_n2, p_n3⟩) hN) hKK hP hD hS hA 20 (ci := 0) rfl rfl (cwV 0 hts gX2_dealAnew_X0_draw rfl rfl rfl (by decide +kernel) ⟨Nat.le_of_ble_eq_true rfl, Nat.le_of_ble_eq_true rfl⟩) rfl hl.1 rfl (Nat.le_of_ble_eq_true rfl) dX2_dealAnew_37 ⟨Nat.le_of_ble_eq_true rfl, Nat.le_of_ble_eq_true rfl⟩ (fun r50759 q9 H locs hr50759 hP hD hS => ?_)
            obtain ⟨r50761, u50760⟩ := q9
            have hr50759 : Rg (-2147483648) 2147483647 r50759 ∧ (r50761 = zsN y27_kz) ∧ (r50759 = drw y27_kz) ∧ (u50760 2 = u 2) := hr50759
            have hP : va_P D cls (wX cI cS a na nc N (mkL tw y12_ks l_t l_i l_kp l_iz r50761 l_tp l_o0 l_o1 l_o2 l_o3 l_n0 l_n1 l_n2 l_n3) u50760) H := hP
            have hD : va_D A (wX cI cS a na nc N (mkL tw y12_ks l_t l_i l_kp l_iz r50761 l_tp l_o0 l_o1 l_o2 l_o3 l_n0 l_n1 l_n2 l_n3) u50760) := hD
            have kr50759_0 := hr50759.2.1
            have kr50759_1 := hr50759.2.2.1
            have kr50759_2 := hr50759.2.2.2
            refine lv_bipush (v := 10) hx hb dX2_dealAnew_40 (by decide) ?_
            refine lv_irem hx hb dX2_dealAnew_42 (by decide) ?_
            refine wk_topP (P := fun r => r = remT r50759) rfl (fun r50762 qr50762 => ?_)
            refine lv_iload_n hx hb dX2_dealAnew_43 rfl (lv_at hl 1 rfl) ?_
            refine lv_icmp_ge (tgt := 56) hx hb dX2_dealAnew_44 (by decide) (fun c50763 => ?_) (fun c50763 => ?_)
            · refine wk_iinc (lv' := fun r => [(5, .int r), (0, .ref (a 1)), (2, .int x1), (3, .ref (a 20)), (4, .int y12_l4)]) (e1 := 2) (f := 12) hx hb dX2_dealAnew_56 hl (k := 4) rfl (by decide) g50758 (by decide) (fun _ => rfl) (fun r50764 ls hr50764 er50764 hl => ?_)
              refine lv_goto (tgt := 27) hx hb dX2_dealAnew_59 (by decide) ?_
              exact ih27 r50764 r50761 u50760 _ _ ls g27_l4 (show Rg 1 12 r50764 from rg_w hr50764 (by decide) (by decide)) (show Rg 1 12 y12_ks from rg_w g50757 (by decide) (by decide)) (by have y90 : y27_l5.toInt < y12_ks.toInt := (lz_lt _ _).mp (rg_nle c50755); have y91 : x1.toInt ≤ r50762.toInt := (lz_le _ _).mp c50763; have y92 : Rg 2 12 y12_ks := g50757; have y93 : Rg 1 11 y27_l5 := g50758; have y94 : Rg 0 11 y12_l4 := g27_l4; have y95 : Rg 2 12 r50764 := hr50764; have y96 : Rg 2 12 y12_ks := g50757; have y97 : Rg 0 12 l_t := p_t; have y98 : Rg 0 12 l_i := p_i; have y99 : Rg 0 120 l_tp := p_tp; have y910 : Rg 0 40 l_n0 := p_n0; have y911 : Rg 0 40 l_n1 := p_n1; have y912 : Rg 0 40 l_n2 := p_n2; have y913 : Rg 0 40 l_n3 := p_n3; have y9c14 : (0 : Int32).toInt = 0 := (by decide); have y9c15 : (1 : Int32).toInt = 1 := (by decide); skip; exact ⟨by omega, PI.step x27_0.2.1 g12_l4.1 (by omega) (by omega) er50764 kr50759_0 (Or.inr ⟨fun w => absurd ((lz_lt _ _).mp (show r50762 < x1 by rw [qr50762, kr50759_1]; exact w)) (by have z8 := (lz_le _ _).mp c50763; omega), kr50759_2⟩), by omega, by omega⟩) hP hD hS (lv_sub (l' := [(0, .ref (a 1)), (2, .int x1), (3, .ref (a 20)), (4, .int y12_l4), (5, .int r50764)]) hl [1, 2, 3, 4, 0] rfl) (me_up hm27 er50764 (by decide))
            · refine lv_aload_n hx hb dX2_dealAnew_47 rfl (lv_at hl 0 rfl) ?_
              refine lv_iload hx hb dX2_dealAnew_48 (lv_at hl 3 rfl) ?_
              refine lv_iload hx hb dX2_dealAnew_50 (lv_at hl 4 rfl) ?_
              refine lv_iconst (v := 1) hx hb dX2_dealAnew_52 (by decide) ?_
              refine wk_qv (wX cI cS a na nc N (mkL tw y12_ks l_t l_i l_kp l_iz r50761 l_tp l_o0 l_o1 l_o2 l_o3 l_n0 l_n1 l_n2 l_n3)) u50760 (As := [.int y12_l4, .int y27_l5, .int 1]) (rest := []) ⟨hx, hb, hml, hown, hts⟩ (k_X2_join_1 l D cI cS _ a na nc N (mkL tw y12_ks l_t l_i l_kp l_iz r50761 l_tp l_o0 l_o1 l_o2 l_o3 l_n0 l_n1 l_n2 l_n3) u50760 (show TyX (mkL tw y12_ks l_t l_i l_kp l_iz r50761 l_tp l_o0 l_o1 l_o2 l_o3 l_n0 l_n1 l_n2 l_n3) from ⟨(show Rg 0 12 y12_ks from rg_w g50757 (by decide) (by decide)), p_t, p_i, p_tp, p_n0, p_n1, p_n2, p_n3⟩) hN y12_l4 y27_l5 g27_l4 (show Rg 0 11 y27_l5 from rg_w g50758 (by decide) (by decide)) (show 0 ≤ y12_l4.toInt ∧ y12_l4.toInt < y27_l5.toInt ∧ y27_l5.toInt < y12_ks.toInt from by have y90 : y27_l5.toInt < y12_ks.toInt := (lz_lt _ _).mp (rg_nle c50755); have y91 : r50762.toInt < x1.toInt := (lz_lt _ _).mp (rg_nle c50763); have y92 : Rg 2 12 y12_ks := g50757; have y93 : Rg 1 11 y27_l5 := g50758; have y94 : Rg 0 11 y12_l4 := g27_l4; have y95 : Rg 1 11 y27_l5 := g50758; have y96 : Rg 1 11 y27_l5 := g50758; have y97 : Rg 0 11 y12_l4 := g27_l4; have y98 : Rg 2 12 y12_ks := g50757; have y99 : Rg 0 12 l_t := p_t; have y910 : Rg 0 12 l_i := p_i; have y911 : Rg 0 120 l_tp := p_tp; have y912 : Rg 0 40 l_n0 := p_n0; have y913 : Rg 0 40 l_n1 := p_n1; have y914 : Rg 0 40 l_n2 := p_n2; have y915 : Rg 0 40 l_n3 := p_n3; have y9c16 : (0 : Int32).toInt = 0 := (by decide); have y9c17 : (1 : Int32).toInt = 1 := (by decide); skip; omega)) hKK hP hD hS hA 1 (ci := 2) rfl rfl (cwV 3 hts gX2_dealAnew_X2_join rfl rfl rfl (by decide +kernel) ⟨Nat.le_of_ble_eq_true rfl, Nat.le_of_ble_eq_true rfl⟩) rfl hl.1 rfl (Nat.le_of_ble_eq_true rfl) dX2_dealAnew_53 ⟨Nat.le_of_ble_eq_true rfl, Nat.le_of_ble_eq_true rfl⟩ (fun u50766 H locs hr50765 hP hD hS => ?_)
              refine wk_iinc (lv' := fun r => [(5, .int r), (0, .ref (a 1)), (2, .int x1), (3, .ref (a 20)), (4, .int y12_l4)]) (e1 := 2) (f := 12) hx hb dX2_dealAnew_56 hl (k := 4) rfl (by decide) g50758 (by decide) (fun _ => rfl) (fun r50767 ls hr50767 er50767 hl => ?_)
              refine lv_goto (tgt := 27) hx hb dX2_dealAnew_59 (by decide) ?_
              exact ih27 r50767 r50761 u50766 _ _ ls g27_l4 (show Rg 1 12 r50767 from rg_w hr50767 (by decide) (by decide)) (show Rg 1 12 y12_ks from rg_w g50757 (by decide) (by decide)) (by have y90 : y27_l5.toInt < y12_ks.toInt := (lz_lt _ _).mp (rg_nle c50755); have y91 : r50762.toInt < x1.toInt := (lz_lt _ _).mp (rg_nle c50763); have y92 : Rg 2 12 y12_ks := g50757; have y93 : Rg 1 11 y27_l5 := g50758; have y94 : Rg 0 11 y12_l4 := g27_l4; have y95 : Rg 2 12 r50767 := hr50767; have y96 : Rg 2 12 y12_ks := g50757; have y97 : Rg 0 12 l_t := p_t; have y98 : Rg 0 12 l_i := p_i; have y99 : Rg 0 120 l_tp := p_tp; have y910 : Rg 0 40 l_n0 := p_n0; have y911 : Rg 0 40 l_n1 := p_n1; have y912 : Rg 0 40 l_n2 := p_n2; have y913 : Rg 0 40 l_n3 := p_n3; have y9c14 : (0 : Int32).toInt = 0 := (by decide); have y9c15 : (1 : Int32).toInt = 1 := (by decide); skip; exact ⟨by omega, PI.step x27_0.2.1 g12_l4.1 (by omega) (by omega) er50767 kr50759_0 (Or.inl ⟨by rw [← kr50759_1, ← qr50762]; exact rg_nle c50763, by rw [hr50765, kr50759_2]⟩), by omega, by omega⟩) hP hD hS (lv_sub (l' := [(0, .ref (a 1)), (2, .int x1), (3, .ref (a 20)), (4, .int y12_l4), (5, .int r50767)]) hl [1, 2, 3, 4, 0] rfl) (me_up hm27 er50767 (by decide))
      refine lv_iload hx hb dX2_dealAnew_12 (lv_at hl 3 rfl) ?_
      refine lv_aload_n hx hb dX2_dealAnew_14 rfl (lv_at hl 0 rfl) ?_
      refine va_get (D := D) (ci := 2) (v := .int y12_ks) (C := RX2) (T := TX2) (N := 3) hx hb hts hin2 hown hK hP 1 rfl rfl 1 (by decide) (hts (.fieldLink RX2 15 "MissedPoints$Net" "size" "I") (by decide +kernel)) (fun _ h9 => h9) rfl dX2_dealAnew_15 ?_
      refine lv_icmp_ge (tgt := 68) hx hb dX2_dealAnew_18 (by decide) (fun c50768 => ?_) (fun c50768 => ?_)
      · subst hAe
        exact W.vret hx hb hr (fun t ht hW => ⟨⟨(y12_ks, y12_kz, u), rfl, ⟨g12_ks, (show y12_ks.toInt = x0.toInt from by have y90 : y12_ks.toInt ≤ y12_l4.toInt := (lz_le _ _).mp c50768; have y91 : Rg 0 12 y12_l4 := g12_l4; have y92 : Rg 0 12 y12_ks := g12_ks; have y93 : Rg 0 12 l_t := p_t; have y94 : Rg 0 12 l_i := p_i; have y95 : Rg 0 120 l_tp := p_tp; have y96 : Rg 0 40 l_n0 := p_n0; have y97 : Rg 0 40 l_n1 := p_n1; have y98 : Rg 0 40 l_n2 := p_n2; have y99 : Rg 0 40 l_n3 := p_n3; have y9c10 : (0 : Int32).toInt = 0 := (by decide); have y9c11 : (1 : Int32).toInt = 1 := (by decide); omega), ⟨y12_l4, x12_0.2.1, by have y90 : y12_ks.toInt ≤ y12_l4.toInt := (lz_le _ _).mp c50768; have y91 : Rg 0 12 y12_l4 := g12_l4; have y92 : Rg 0 12 y12_ks := g12_ks; have y93 : Rg 0 12 l_t := p_t; have y94 : Rg 0 12 l_i := p_i; have y95 : Rg 0 120 l_tp := p_tp; have y96 : Rg 0 40 l_n0 := p_n0; have y97 : Rg 0 40 l_n1 := p_n1; have y98 : Rg 0 40 l_n2 := p_n2; have y99 : Rg 0 40 l_n3 := p_n3; have y9c10 : (0 : Int32).toInt = 0 := (by decide); have y9c11 : (1 : Int32).toInt = 1 := (by decide); skip; omega⟩⟩, by rw [ht]; exact hP, hD⟩, hS.F ht⟩) hS.2.2 dX2_dealAnew_68
      · have g50769 : Rg 1 12 y12_ks := rg_ltr g12_l4 g12_ks (rg_nle c50768) (by decide)
        have g50770 : Rg 0 11 y12_l4 := rg_ltl g12_l4 g12_ks (rg_nle c50768) (by decide)
        refine lv_iload hx hb dX2_dealAnew_21 (lv_at hl 3 rfl) ?_
        refine lv_iconst (v := 1) hx hb dX2_dealAnew_23 (by decide) ?_
        refine wk_iadd (e1 := 1) (f := 12) hx hb dX2_dealAnew_24 g50770 (by decide : Rg 1 1 (1 : Int32)) (by decide) (fun r50771 hr50771 er50771 qr50771 => ?_)
        refine lv_istore (lv' := [(5, .int r50771), (0, .ref (a 1)), (2, .int x1), (3, .ref (a 20)), (4, .int y12_l4)]) hx hb dX2_dealAnew_25 hl (by decide) rfl (fun ls hl => ?_)
        exact lp27 12 r50771 y12_kz u _ _ ls g50770 hr50771 g50769 (by have y90 : y12_l4.toInt < y12_ks.toInt := (lz_lt _ _).mp (rg_nle c50768); have y91 : Rg 1 12 y12_ks := g50769; have y92 : Rg 0 11 y12_l4 := g50770; have y93 : Rg 0 11 y12_l4 := g50770; have y94 : Rg 1 12 r50771 := hr50771; have y95 : Rg 1 12 y12_ks := g50769; have y96 : Rg 0 12 l_t := p_t; have y97 : Rg 0 12 l_i := p_i; have y98 : Rg 0 120 l_tp := p_tp; have y99 : Rg 0 40 l_n0 := p_n0; have y910 : Rg 0 40 l_n1 := p_n1; have y911 : Rg 0 40 l_n2 := p_n2; have y912 : Rg 0 40 l_n3 := p_n3; have y9c13 : (0 : Int32).toInt = 0 := (by decide); have y9c14 : (1 : Int32).toInt = 1 := (by decide); skip; exact ⟨by omega, PI.zero x12_0.2.1 g12_l4.1 er50771, by omega, by omega⟩) hP hD hS (lv_sub (l' := [(0, .ref (a 1)), (2, .int x1), (3, .ref (a 20)), (4, .int y12_l4), (5, .int r50771)]) hl [1, 2, 3, 4, 0] rfl) (me_i hr50771 (by decide))
  refine lv_aload_n hx hb dX2_dealAnew_0 rfl (lv_at hl 0 rfl) ?_
  refine wk_qv (S := Int32 × SU) (fun q => wX cI cS a na nc N (mkL tw q.1 l_t l_i l_kp l_iz l_z l_tp l_o0 l_o1 l_o2 l_o3 l_n0 l_n1 l_n2 l_n3) q.2) (l_s, u) (As := []) (rest := []) ⟨hx, hb, hml, hown, hts⟩ (k_X2_empty_D l D cI cS _ a na nc N tw l_s l_t l_i l_kp l_iz l_z l_tp l_o0 l_o1 l_o2 l_o3 l_n0 l_n1 l_n2 l_n3 u (show TyX (mkL tw l_s l_t l_i l_kp l_iz l_z l_tp l_o0 l_o1 l_o2 l_o3 l_n0 l_n1 l_n2 l_n3) from ⟨p_s, p_t, p_i, p_tp, p_n0, p_n1, p_n2, p_n3⟩) hN) hKK hP hD hS hA 1 (ci := 2) rfl rfl (cwV 0 hts gX2_dealAnew_X2_empty rfl rfl rfl (by decide +kernel) ⟨Nat.le_of_ble_eq_true rfl, Nat.le_of_ble_eq_true rfl⟩) rfl hl.1 rfl (Nat.le_of_ble_eq_true rfl) dX2_dealAnew_1 ⟨Nat.le_of_ble_eq_true rfl, Nat.le_of_ble_eq_true rfl⟩ (fun q9 H locs hr50772 hP hD hS => ?_)
  obtain ⟨r50774, u50773⟩ := q9
  have hr50772 : Rg 0 0 r50774 ∧ (r50774.toInt = 0) ∧ (∀ j, j < 12 → u50773 2 j = 0) := hr50772
  have hP : va_P D cls (wX cI cS a na nc N (mkL tw r50774 l_t l_i l_kp l_iz l_z l_tp l_o0 l_o1 l_o2 l_o3 l_n0 l_n1 l_n2 l_n3) u50773) H := hP
  have hD : va_D A (wX cI cS a na nc N (mkL tw r50774 l_t l_i l_kp l_iz l_z l_tp l_o0 l_o1 l_o2 l_o3 l_n0 l_n1 l_n2 l_n3) u50773) := hD
  have kr50772_0 := hr50772.2.1
  have kr50772_1 := hr50772.2.2
  refine lv_aload_n hx hb dX2_dealAnew_4 rfl (lv_at hl 0 rfl) ?_
  refine lv_iload_n hx hb dX2_dealAnew_5 rfl (lv_at hl 1 rfl) ?_
  refine wk_qv (S := Int32 × SU) (fun q => wX cI cS a na nc N (mkL tw q.1 l_t l_i l_kp l_iz l_z l_tp l_o0 l_o1 l_o2 l_o3 l_n0 l_n1 l_n2 l_n3) q.2) (r50774, u50773) (As := [.int x0]) (rest := []) ⟨hx, hb, hml, hown, hts⟩ (k_X2_add_D l D cI cS _ a na nc N tw r50774 l_t l_i l_kp l_iz l_z l_tp l_o0 l_o1 l_o2 l_o3 l_n0 l_n1 l_n2 l_n3 u50773 (show TyX (mkL tw r50774 l_t l_i l_kp l_iz l_z l_tp l_o0 l_o1 l_o2 l_o3 l_n0 l_n1 l_n2 l_n3) from ⟨(show Rg 0 12 r50774 from rg_w hr50772.1 (by decide) (by decide)), p_t, p_i, p_tp, p_n0, p_n1, p_n2, p_n3⟩) hN x0 px0) hKK hP hD hS hA 1 (ci := 2) rfl rfl (cwV 1 hts gX2_dealAnew_X2_add rfl rfl rfl (by decide +kernel) ⟨Nat.le_of_ble_eq_true rfl, Nat.le_of_ble_eq_true rfl⟩) rfl hl.1 rfl (Nat.le_of_ble_eq_true rfl) dX2_dealAnew_6 ⟨Nat.le_of_ble_eq_true rfl, Nat.le_of_ble_eq_true rfl⟩ (fun q9 H locs hr50775 hP hD hS => ?_)
  obtain ⟨r50777, u50776⟩ := q9
  have hr50775 : Rg 0 12 r50777 ∧ ((r50774.toInt + x0.toInt ≤ 12 → r50777.toInt = r50774.toInt + x0.toInt)) ∧ (u50776 2 = u50773 2) := hr50775
  have hP : va_P D cls (wX cI cS a na nc N (mkL tw r50777 l_t l_i l_kp l_iz l_z l_tp l_o0 l_o1 l_o2 l_o3 l_n0 l_n1 l_n2 l_n3) u50776) H := hP
  have hD : va_D A (wX cI cS a na nc N (mkL tw r50777 l_t l_i l_kp l_iz l_z l_tp l_o0 l_o1 l_o2 l_o3 l_n0 l_n1 l_n2 l_n3) u50776) := hD
  have kr50775_0 := hr50775.2.1
  have kr50775_1 := hr50775.2.2
  refine lv_iconst (v := 0) hx hb dX2_dealAnew_9 (by decide) ?_
  refine lv_istore (lv' := [(4, .int 0), (0, .ref (a 1)), (1, .int x0), (2, .int x1), (3, .ref (a 20))]) hx hb dX2_dealAnew_10 hl (by decide) rfl (fun ls hl => ?_)
  exact lp12 13 (0 : Int32) r50777 l_z u50776 _ _ ls (by decide : Rg 0 12 (0 : Int32)) hr50775.1 (by have y90 : Rg 0 12 x0 := px0; have y91 : Rg 0 12 r50777 := hr50775.1; have y92 : Rg 0 12 l_t := p_t; have y93 : Rg 0 12 l_i := p_i; have y94 : Rg 0 120 l_tp := p_tp; have y95 : Rg 0 40 l_n0 := p_n0; have y96 : Rg 0 40 l_n1 := p_n1; have y97 : Rg 0 40 l_n2 := p_n2; have y98 : Rg 0 40 l_n3 := p_n3; have y9c9 : (0 : Int32).toInt = 0 := (by decide); have y9c10 : (1 : Int32).toInt = 1 := (by decide); skip; exact ⟨by omega, PO.zero (fun j hj => by rw [kr50775_1]; exact kr50772_1 j (by have e1 : x0.toNatClampNeg = x0.toInt.toNat := rfl; omega)) (by decide), by omega⟩) hP hD hS (lv_sub (l' := [(0, .ref (a 1)), (2, .int x1), (3, .ref (a 20)), (4, .int 0)]) hl [1, 3, 4, 0] rfl) (me_i (by decide : Rg 0 12 (0 : Int32)) (by decide))
set_option maxHeartbeats 4000000 in
set_option maxRecDepth 100000 in
theorem k_X2_lineCount_D (l : Launch) (D : va_G) (cI cS : ClassId) (a : Nat → Nat) (na nc N : Nat) (L u : SU) (hL : TyX L) (hN : N = 0 ∨ N = 24576) : Met l yX2_lineCount wsX2_lineCount ({ frames := 1, cells := 0, slots := 0, locals := 40 }) (PS D cI cS (wX cI cS a na nc N L u) [.ref (a 1)]) (vp_Si (fun r => Rg (-2147483648) 2147483647 r ∧ (r = sumB (u 2) (L 1 1).toNatClampNeg / 2))) 0 0 (fun _ => False) := by
  refine Met.ofW (cc := cX2_lineCount) (maxL := 3) (ret := (some .int)) (by decide) rfl ?_
  intro p e s m args below meth c s₁ B hml hv
  obtain ⟨rfl, hP, hKK⟩ := hv
  have hx := B.exec
  have hb := B.bytes
  have hr := B.returns
  have hts := atoms_spec (ws := wsX2_lineCount) B.pre
  have hown : s.vm.findClass RX2 = some m.cls := findClass_of_methodNamed B.named
  have hlocks := B.notSynchronized
  have hK := hKK.1
  have hin2 : ∀ w ∈ wsX20, w ∈ wsX2_lineCount := by decide +kernel
  have hl := lv_entry ([.ref (a 1)]) (n := 3) (Nat.le_of_ble_eq_true rfl)
  rw [lg_entry_eq]
  generalize (lg_sl ([.ref (a 1)]) ++ List.replicate (3 - (lg_sl ([.ref (a 1)])).length) Slot.unset).toArray = ls at hl ⊢
  have hl : lv_has ls 3 [(0, .ref (a 1))] := hl
  have lp4 : ∀ (n4 : Nat) (y4_l1 : Int32) (y4_l2 : Int32) (ls : Array Slot), Rg 0 12 y4_l2 → (y4_l1 = sumB (u 2) y4_l2.toNatClampNeg ∧ y4_l2.toInt ≤ (L 1 1).toInt) → lv_has ls 3 [(0, .ref (a 1)), (1, .int y4_l1), (2, .int y4_l2)] → 12 - y4_l2.toInt < (n4 : Int) → W p l e (headSpec wsX2_lineCount ({ frames := 1, cells := 0, slots := 0, locals := 40 })).room s m ([.ref (a 1)]).toArray below meth c s.heap [] 0 0 (MQ below (vp_Si (fun r => Rg (-2147483648) 2147483647 r ∧ (r = sumB (u 2) (L 1 1).toNatClampNeg / 2))) ([.ref (a 1)]).toArray s 0 0 (fun _ => False)) (F0 m 4 ls []) := by
    intro n4
    induction n4 with
    | zero =>
      intro y4_l1 y4_l2 ls g4_l2 x4_0 hl hm4
      exact absurd rfl (me_z g4_l2 hm4)
    | succ n4 ih4 =>
      intro y4_l1 y4_l2 ls g4_l2 x4_0 hl hm4
      refine lv_iload_n hx hb dX2_lineCount_4 rfl (lv_at hl 2 rfl) ?_
      refine lv_aload_n hx hb dX2_lineCount_5 rfl (lv_at hl 0 rfl) ?_
      refine va_get (D := D) (ci := 2) (v := .int (L 1 1)) (C := RX2) (T := TX2) (N := 3) hx hb hts hin2 hown hK hP 1 rfl rfl 1 (by decide) (hts (.fieldLink RX2 15 "MissedPoints$Net" "size" "I") (by decide +kernel)) (fun _ h9 => h9) rfl dX2_lineCount_6 ?_
      refine lv_icmp_ge (tgt := 30) hx hb dX2_lineCount_9 (by decide) (fun c50848 => ?_) (fun c50848 => ?_)
      · refine lv_iload_n hx hb dX2_lineCount_30 rfl (lv_at hl 1 rfl) ?_
        refine lv_iconst (v := 2) hx hb dX2_lineCount_31 (by decide) ?_
        refine lv_idiv hx hb dX2_lineCount_32 (by decide) ?_
        refine wk_topP (P := fun r => Rg (-2147483648) 2147483647 r ∧ r = y4_l1 / 2) ⟨rg_any _, rfl⟩ (fun r50849 hr50849 => ?_)
        exact W.iret (v := r50849) hx hb hr (fun t ht hW => ⟨_, rfl, ⟨hr50849.1, (by have y90 : (L 1 1).toInt ≤ y4_l2.toInt := (lz_le _ _).mp c50848; have y91 : Rg 0 12 y4_l2 := g4_l2; have y92 : Rg (-2147483648) 2147483647 r50849 := hr50849.1; have y9c3 : (0 : Int32).toInt = 0 := (by decide); have y9c4 : (1 : Int32).toInt = 1 := (by decide); skip; rw [hr50849.2, x4_0.1, show y4_l2 = (L 1 1) from Int32.toInt_inj.mp (by omega)])⟩, ht⟩) (fun q hq => absurd hq List.not_mem_nil) dX2_lineCount_33
      · have g50850 : Rg 1 12 (L 1 1) := rg_ltr g4_l2 hL.1 (rg_nle c50848) (by decide)
        have g50851 : Rg 0 11 y4_l2 := rg_ltl g4_l2 hL.1 (rg_nle c50848) (by decide)
        refine lv_iload_n hx hb dX2_lineCount_12 rfl (lv_at hl 1 rfl) ?_
        refine lv_aload_n hx hb dX2_lineCount_13 rfl (lv_at hl 0 rfl) ?_
        refine va_get (D := D) (ci := 2) (v := .ref (a 2)) (C := RX2) (T := TX2) (N := 3) hx hb hts hin2 hown hK hP 1 rfl rfl 0 (by decide) (hts (.fieldLink RX2 9 "MissedPoints$Net" "links" "[I") (by decide +kernel)) (fun _ h9 => h9) rfl dX2_lineCount_14 ?_
        refine lv_iload_n hx hb dX2_lineCount_17 rfl (lv_at hl 2 rfl) ?_
        refine va_iald hx hb hK hP 2 0 rfl rfl (rg_in g50851 (by decide) (by decide)) dX2_lineCount_18 ?_
        refine lz_top (y := (u 2 y4_l2.toNatClampNeg)) rfl ?_
        refine lz_ss (As := [.int (u 2 y4_l2.toNatClampNeg)]) (rest := [.int y4_l1]) ⟨hx, hb, hml, hown, hts⟩ (k_bitCount_E l D cI cS (u 2 y4_l2.toNatClampNeg)) hKK (hP.sub (ws' := []) [] rfl) (va_cwS 1 hts gX2_lineCount_J6_bitCount_0f7a4 rfl rfl rfl (by decide +kernel) ⟨Nat.le_of_ble_eq_true rfl, Nat.le_of_ble_eq_true rfl⟩) rfl hl.1 rfl (Nat.le_of_ble_eq_true rfl) dX2_lineCount_19 ⟨Nat.le_of_ble_eq_true rfl, Nat.le_of_ble_eq_true rfl⟩ (fun r50852 hr50852 => ?_)
        refine lv_iadd hx hb dX2_lineCount_22 ?_
        refine wk_topP (P := fun r => r = y4_l1 + r50852) rfl (fun r50853 qr50853 => ?_)
        refine lv_istore_n (lv' := [(1, .int r50853), (0, .ref (a 1)), (2, .int y4_l2)]) hx hb dX2_lineCount_23 rfl hl (by decide) rfl (fun ls hl => ?_)
        refine wk_iinc (lv' := fun r => [(2, .int r), (1, .int r50853), (0, .ref (a 1))]) (e1 := 1) (f := 12) hx hb dX2_lineCount_24 hl (k := 2) rfl (by decide) g50851 (by decide) (fun _ => rfl) (fun r50854 ls hr50854 er50854 hl => ?_)
        refine lv_goto (tgt := 4) hx hb dX2_lineCount_27 (by decide) ?_
        exact ih4 r50853 r50854 ls (show Rg 0 12 r50854 from rg_w hr50854 (by decide) (by decide)) (by have y90 : y4_l2.toInt < (L 1 1).toInt := (lz_lt _ _).mp (rg_nle c50848); have y91 : Rg 1 12 (L 1 1) := g50850; have y92 : Rg 0 11 y4_l2 := g50851; have y93 : Rg 1 12 r50854 := hr50854; have y9c4 : (0 : Int32).toInt = 0 := (by decide); have y9c5 : (1 : Int32).toInt = 1 := (by decide); skip; exact ⟨sumB_s x4_0.1 g4_l2.1 er50854 qr50853 hr50852.2, by omega⟩) (lv_sub (l' := [(0, .ref (a 1)), (1, .int r50853), (2, .int r50854)]) hl [2, 1, 0] rfl) (me_up hm4 er50854 (by decide))
  refine lv_iconst (v := 0) hx hb dX2_lineCount_0 (by decide) ?_
  refine lv_istore_n (lv' := [(1, .int 0), (0, .ref (a 1))]) hx hb dX2_lineCount_1 rfl hl (by decide) rfl (fun ls hl => ?_)
  refine lv_iconst (v := 0) hx hb dX2_lineCount_2 (by decide) ?_
  refine lv_istore_n (lv' := [(2, .int 0), (1, .int 0), (0, .ref (a 1))]) hx hb dX2_lineCount_3 rfl hl (by decide) rfl (fun ls hl => ?_)
  exact lp4 13 (0 : Int32) (0 : Int32) ls (by decide : Rg 0 12 (0 : Int32)) (by have y9c0 : (0 : Int32).toInt = 0 := (by decide); have y9c1 : (1 : Int32).toInt = 1 := (by decide); skip; have z8 := hL.1; exact ⟨rfl, by omega⟩) (lv_sub (l' := [(0, .ref (a 1)), (1, .int 0), (2, .int 0)]) hl [2, 1, 0] rfl) (me_i (by decide : Rg 0 12 (0 : Int32)) (by decide))
set_option maxHeartbeats 4000000 in
set_option maxRecDepth 100000 in
theorem k_X11_deal_D (l : Launch) (D : va_G) (cI cS : ClassId) (sz : Nat) (a : Nat → Nat) (na nc N : Nat) (tw : SU) (l_s l_t l_i l_kp l_iz l_z l_tp l_o0 l_o1 l_o2 l_o3 l_n0 l_n1 l_n2 l_n3 : Int32) (u0 : SU) (hL : TyX (mkL tw l_s l_t l_i l_kp l_iz l_z l_tp l_o0 l_o1 l_o2 l_o3 l_n0 l_n1 l_n2 l_n3)) (hN : N = 0 ∨ N = 24576) (x0 x1 : Int32) : Met l yX11_deal wsX11_deal ({ frames := 4, cells := 0, slots := 0, locals := 160 }) (PQ D cI cS (wX cI cS a na nc N (mkL tw l_s l_t l_i l_kp l_iz l_z l_tp l_o0 l_o1 l_o2 l_o3 l_n0 l_n1 l_n2 l_n3) u0) sz [.ref (a 0), .int x0, .int x1]) (QF (S := Int32 × Int32 × SU) D (wX cI cS a na nc N (mkL tw l_s l_t l_i l_kp l_iz l_z l_tp l_o0 l_o1 l_o2 l_o3 l_n0 l_n1 l_n2 l_n3) u0) (fun q => wX cI cS a na nc N (mkL tw q.1 l_t l_i l_kp l_iz q.2.1 l_tp l_o0 l_o1 l_o2 l_o3 l_n0 l_n1 l_n2 l_n3) q.2.2) sz (fun r q => Rg (-2147483648) 2147483647 r ∧ Rg 0 12 q.1 ∧ (r = dealF x0 x1 l_z) ∧ ((x0.toInt < 0 ∨ 12 < x0.toInt ∨ x1.toInt < 0 ∨ 10 < x1.toInt → r.toInt = -2 ∧ q.1.toInt = l_s.toInt) ∧ (0 ≤ x0.toInt → x0.toInt ≤ 12 → 0 ≤ x1.toInt → x1.toInt ≤ 10 → q.1.toInt = x0.toInt)) ∧ ((x0.toInt < 0 ∨ 12 < x0.toInt ∨ x1.toInt < 0 ∨ 10 < x1.toInt → q.2.1.toInt = l_z.toInt) ∧ (0 ≤ x0.toInt → x0.toInt ≤ 12 → 0 ≤ x1.toInt → x1.toInt ≤ 10 → q.2.1.toInt = (pout x1 x0.toNatClampNeg l_z x0.toNatClampNeg).2.toInt)))) 0 0 (va_A (wX cI cS a na nc N (mkL tw l_s l_t l_i l_kp l_iz l_z l_tp l_o0 l_o1 l_o2 l_o3 l_n0 l_n1 l_n2 l_n3) u0) sz) := by
  refine Met.ofW (cc := cX11_deal) (maxL := 3) (ret := (some .int)) (by decide) rfl ?_
  intro p e s m args below meth c s₁ B hml hv
  obtain ⟨rfl, hsz, hP, hKK, hD0⟩ := hv
  have hx := B.exec
  have hb := B.bytes
  have hr := B.returns
  have hts := atoms_spec (ws := wsX11_deal) B.pre
  have hown : s.vm.findClass RX11 = some m.cls := findClass_of_methodNamed B.named
  have hlocks := B.notSynchronized
  have hK := hKK.1
  have hin11 : ∀ w ∈ wsX110, w ∈ wsX11_deal := by decide +kernel
  subst hsz
  have hD := hD0.self (sz := s.heap.size)
  obtain ⟨A, hAe⟩ : ∃ A, A = va_A (wX cI cS a na nc N (mkL tw l_s l_t l_i l_kp l_iz l_z l_tp l_o0 l_o1 l_o2 l_o3 l_n0 l_n1 l_n2 l_n3) u0) s.heap.size := ⟨_, rfl⟩
  rw [← hAe] at hD
  have hA : ∀ q : Nat, s.heap.size ≤ q → A q := fun q h => by rw [hAe]; exact Or.inr h
  have hS : va_S A s.heap s.heap [] := va_S.rf
  have hl := lv_entry ([.ref (a 0), .int x0, .int x1]) (n := 3) (Nat.le_of_ble_eq_true rfl)
  rw [lg_entry_eq]
  generalize (lg_sl ([.ref (a 0), .int x0, .int x1]) ++ List.replicate (3 - (lg_sl ([.ref (a 0), .int x0, .int x1])).length) Slot.unset).toArray = ls at hl ⊢
  have hl : lv_has ls 3 [(0, .ref (a 0)), (1, .int x0), (2, .int x1)] := hl
  obtain ⟨u, hu9⟩ : ∃ u : SU, u = u0 := ⟨_, rfl⟩
  rw [← hu9] at hP hD
  have p_s : Rg 0 12 l_s := hL.1
  have p_t : Rg 0 12 l_t := hL.2.1
  have p_i : Rg 0 12 l_i := hL.2.2.1
  have p_tp : Rg 0 120 l_tp := hL.2.2.2.1
  have p_n0 : Rg 0 40 l_n0 := hL.2.2.2.2.1
  have p_n1 : Rg 0 40 l_n1 := hL.2.2.2.2.2.1
  have p_n2 : Rg 0 40 l_n2 := hL.2.2.2.2.2.2.1
  have p_n3 : Rg 0 40 l_n3 := hL.2.2.2.2.2.2.2
  refine lv_iload_n hx hb dX11_deal_0 rfl (lv_at hl 1 rfl) ?_
  refine lv_iload_n hx hb dX11_deal_1 rfl (lv_at hl 2 rfl) ?_
  refine lz_ss (As := [.int x0, .int x1]) (rest := []) ⟨hx, hb, hml, hown, hts⟩ (k_X11_canDeal_z l D cI cS x0 x1) hKK (hP.sub (ws' := []) [] rfl) (va_cwS 2 hts gX11_deal_X11_canDeal rfl rfl rfl (by decide +kernel) ⟨Nat.le_of_ble_eq_true rfl, Nat.le_of_ble_eq_true rfl⟩) rfl hl.1 rfl (Nat.le_of_ble_eq_true rfl) dX11_deal_2 ⟨Nat.le_of_ble_eq_true rfl, Nat.le_of_ble_eq_true rfl⟩ (fun r50868 hr50868 => ?_)
  refine lv_if_ne (tgt := 11) hx hb dX11_deal_5 (by decide) (fun c50869 => ?_) (fun c50869 => ?_)
  · have g50870 : Rg 0 12 x0 := (hr50868.2.1 c50869).1
    have g50871 : Rg 0 10 x1 := (hr50868.2.1 c50869).2
    have g50872 : Rg 1 1 r50868 := rg_ne_lo (k := 0) hr50868.1 (by decide) c50869 (by decide)
    refine lv_aload_n hx hb dX11_deal_11 rfl (lv_at hl 0 rfl) ?_
    refine va_get (D := D) (ci := 11) (v := .ref (a 1)) (C := RX11) (T := TX11) (N := 16) hx hb hts hin11 hown hK hP 0 rfl rfl 0 (by decide) (hts (.fieldLink RX11 12 "MissedPoints" "net" "LMissedPoints$Net;") (by decide +kernel)) (fun _ h9 => h9) rfl dX11_deal_12 ?_
    refine lv_iload_n hx hb dX11_deal_15 rfl (lv_at hl 1 rfl) ?_
    refine lv_iload_n hx hb dX11_deal_16 rfl (lv_at hl 2 rfl) ?_
    refine lv_aload_n hx hb dX11_deal_17 rfl (lv_at hl 0 rfl) ?_
    refine va_get (D := D) (ci := 11) (v := .ref (a 20)) (C := RX11) (T := TX11) (N := 16) hx hb hts hin11 hown hK hP 0 rfl rfl 9 (by decide) (hts (.fieldLink RX11 53 "MissedPoints" "draws" "LMissedPoints$Draws;") (by decide +kernel)) (fun _ h9 => h9) rfl dX11_deal_18 ?_
    refine wk_qv (S := Int32 × Int32 × SU) (fun q => wX cI cS a na nc N (mkL tw q.1 l_t l_i l_kp l_iz q.2.1 l_tp l_o0 l_o1 l_o2 l_o3 l_n0 l_n1 l_n2 l_n3) q.2.2) (l_s, l_z, u) (As := [.int x0, .int x1, .ref (a 20)]) (rest := []) ⟨hx, hb, hml, hown, hts⟩ (k_X2_dealAnew_D l D cI cS _ a na nc N tw l_s l_t l_i l_kp l_iz l_z l_tp l_o0 l_o1 l_o2 l_o3 l_n0 l_n1 l_n2 l_n3 u (show TyX (mkL tw l_s l_t l_i l_kp l_iz l_z l_tp l_o0 l_o1 l_o2 l_o3 l_n0 l_n1 l_n2 l_n3) from ⟨p_s, p_t, p_i, p_tp, p_n0, p_n1, p_n2, p_n3⟩) hN x0 x1 g50870) hKK hP hD hS hA 1 (ci := 2) rfl rfl (cwV 3 hts gX11_deal_X2_dealAnew rfl rfl rfl (by decide +kernel) ⟨Nat.le_of_ble_eq_true rfl, Nat.le_of_ble_eq_true rfl⟩) rfl hl.1 rfl (Nat.le_of_ble_eq_true rfl) dX11_deal_21 ⟨Nat.le_of_ble_eq_true rfl, Nat.le_of_ble_eq_true rfl⟩ (fun q9 H locs hr50873 hP hD hS => ?_)
    obtain ⟨r50875, r50876, u50874⟩ := q9
    have hr50873 : Rg 0 12 r50875 ∧ (r50875.toInt = x0.toInt) ∧ (∃ a9, PO x0 x1 l_z (u50874 2) r50876 a9 ∧ a9.toInt = x0.toInt) := hr50873
    have hP : va_P D cls (wX cI cS a na nc N (mkL tw r50875 l_t l_i l_kp l_iz r50876 l_tp l_o0 l_o1 l_o2 l_o3 l_n0 l_n1 l_n2 l_n3) u50874) H := hP
    have hD : va_D A (wX cI cS a na nc N (mkL tw r50875 l_t l_i l_kp l_iz r50876 l_tp l_o0 l_o1 l_o2 l_o3 l_n0 l_n1 l_n2 l_n3) u50874) := hD
    have kr50873_0 := hr50873.2.1
    have kr50873_1 := hr50873.2.2
    refine lv_aload_n hx hb dX11_deal_24 rfl (lv_at hl 0 rfl) ?_
    refine va_get (D := D) (ci := 11) (v := .ref (a 1)) (C := RX11) (T := TX11) (N := 16) hx hb hts hin11 hown hK hP 0 rfl rfl 0 (by decide) (hts (.fieldLink RX11 12 "MissedPoints" "net" "LMissedPoints$Net;") (by decide +kernel)) (fun _ h9 => h9) rfl dX11_deal_25 ?_
    refine wk_sv 1 (As := []) (rest := []) ⟨hx, hb, hml, hown, hts⟩ (k_X2_lineCount_D l D cI cS a na nc N (mkL tw r50875 l_t l_i l_kp l_iz r50876 l_tp l_o0 l_o1 l_o2 l_o3 l_n0 l_n1 l_n2 l_n3) u50874 (show TyX (mkL tw r50875 l_t l_i l_kp l_iz r50876 l_tp l_o0 l_o1 l_o2 l_o3 l_n0 l_n1 l_n2 l_n3) from ⟨hr50873.1, p_t, p_i, p_tp, p_n0, p_n1, p_n2, p_n3⟩) hN) hKK hP (ci := 2) rfl rfl (cwV 0 hts gX11_deal_X2_lineCount rfl rfl rfl (by decide +kernel) ⟨Nat.le_of_ble_eq_true rfl, Nat.le_of_ble_eq_true rfl⟩) rfl hl.1 rfl (Nat.le_of_ble_eq_true rfl) dX11_deal_28 ⟨Nat.le_of_ble_eq_true rfl, Nat.le_of_ble_eq_true rfl⟩ (fun r50877 hr50877 => ?_)
    have ln50878 : r50877 = sumB (u50874 2) r50875.toNatClampNeg / 2 := hr50877.2
    subst hAe
    exact W.iret (v := r50877) hx hb hr (fun t ht hW => ⟨⟨_, (r50875, r50876, u50874), rfl, ⟨hr50877.1, hr50873.1, (by have y90 : ¬ r50868.toInt = (0 : Int32).toInt := fun z => c50869 (Int32.toInt_inj.mp z); have y91 : Rg 0 12 x0 := g50870; have y92 : Rg 0 10 x1 := g50871; have y93 : Rg 1 1 r50868 := g50872; have y94 : Rg 0 12 x0 := g50870; have y95 : Rg 0 10 x1 := g50871; have y96 : Rg (-2147483648) 2147483647 r50877 := hr50877.1; have y97 : Rg 0 12 r50875 := hr50873.1; have y98 : Rg 0 12 l_t := p_t; have y99 : Rg 0 12 l_i := p_i; have y910 : Rg 0 120 l_tp := p_tp; have y911 : Rg 0 40 l_n0 := p_n0; have y912 : Rg 0 40 l_n1 := p_n1; have y913 : Rg 0 40 l_n2 := p_n2; have y914 : Rg 0 40 l_n3 := p_n3; have y9c15 : (0 : Int32).toInt = 0 := (by decide); have y9c16 : (1 : Int32).toInt = 1 := (by decide); skip; obtain ⟨a9, h9, h8⟩ := kr50873_1; exact deal_r h9 h8 (by omega) ln50878 (by omega) (by omega) (by omega) (by omega)), (show (x0.toInt < 0 ∨ 12 < x0.toInt ∨ x1.toInt < 0 ∨ 10 < x1.toInt → r50877.toInt = -2 ∧ r50875.toInt = l_s.toInt) ∧ (0 ≤ x0.toInt → x0.toInt ≤ 12 → 0 ≤ x1.toInt → x1.toInt ≤ 10 → r50875.toInt = x0.toInt) from by have y90 : ¬ r50868.toInt = (0 : Int32).toInt := fun z => c50869 (Int32.toInt_inj.mp z); have y91 : Rg 0 12 x0 := g50870; have y92 : Rg 0 10 x1 := g50871; have y93 : Rg 1 1 r50868 := g50872; have y94 : Rg 0 12 x0 := g50870; have y95 : Rg 0 10 x1 := g50871; have y96 : Rg (-2147483648) 2147483647 r50877 := hr50877.1; have y97 : Rg 0 12 r50875 := hr50873.1; have y98 : Rg 0 12 l_t := p_t; have y99 : Rg 0 12 l_i := p_i; have y910 : Rg 0 120 l_tp := p_tp; have y911 : Rg 0 40 l_n0 := p_n0; have y912 : Rg 0 40 l_n1 := p_n1; have y913 : Rg 0 40 l_n2 := p_n2; have y914 : Rg 0 40 l_n3 := p_n3; have y915 : Rg (-2147483648) 2147483647 r50877 := hr50877.1; have y9c16 : (0 : Int32).toInt = 0 := (by decide); have y9c17 : (1 : Int32).toInt = 1 := (by decide); omega), ⟨fun _ => (by have y90 : ¬ r50868.toInt = (0 : Int32).toInt := fun z => c50869 (Int32.toInt_inj.mp z); have y91 : Rg 0 12 x0 := g50870; have y92 : Rg 0 10 x1 := g50871; have y93 : Rg 1 1 r50868 := g50872; have y94 : Rg 0 12 x0 := g50870; have y95 : Rg 0 10 x1 := g50871; have y96 : Rg (-2147483648) 2147483647 r50877 := hr50877.1; have y97 : Rg 0 12 r50875 := hr50873.1; have y98 : Rg 0 12 l_t := p_t; have y99 : Rg 0 12 l_i := p_i; have y910 : Rg 0 120 l_tp := p_tp; have y911 : Rg 0 40 l_n0 := p_n0; have y912 : Rg 0 40 l_n1 := p_n1; have y913 : Rg 0 40 l_n2 := p_n2; have y914 : Rg 0 40 l_n3 := p_n3; have y9c15 : (0 : Int32).toInt = 0 := (by decide); have y9c16 : (1 : Int32).toInt = 1 := (by decide); skip; omega), fun _ _ _ _ => (by obtain ⟨a9, h9, h8⟩ := kr50873_1; exact h9.z h8)⟩⟩, by rw [ht]; exact hP, hD⟩, hS.F ht⟩) hS.2.2 dX11_deal_31
  · have zt50879 : (x0.toInt < 0 ∨ 12 < x0.toInt ∨ x1.toInt < 0 ∨ 10 < x1.toInt) := hr50868.2.2 c50869
    have g50880 : Rg 0 0 r50868 := wk_eql hr50868.1 (by decide : Rg 0 0 (0 : Int32)) c50869 (by decide)
    refine lv_bipush (v := (-2)) hx hb dX11_deal_8 (by decide) ?_
    subst hAe
    exact W.iret (v := (-2)) hx hb hr (fun t ht hW => ⟨⟨_, (l_s, l_z, u), rfl, ⟨(by decide : Rg (-2147483648) 2147483647 ((-2) : Int32)), p_s, (deal_b (by have y90 : r50868.toInt = (0 : Int32).toInt := congrArg Int32.toInt c50869; have y91 : Rg 0 0 r50868 := g50880; have y92 : Rg 0 12 l_s := p_s; have y93 : Rg 0 12 l_t := p_t; have y94 : Rg 0 12 l_i := p_i; have y95 : Rg 0 120 l_tp := p_tp; have y96 : Rg 0 40 l_n0 := p_n0; have y97 : Rg 0 40 l_n1 := p_n1; have y98 : Rg 0 40 l_n2 := p_n2; have y99 : Rg 0 40 l_n3 := p_n3; have y9c10 : ((-2) : Int32).toInt = -2 := (by decide); have y9c11 : (0 : Int32).toInt = 0 := (by decide); have y9c12 : (1 : Int32).toInt = 1 := (by decide); skip; omega)), (show (x0.toInt < 0 ∨ 12 < x0.toInt ∨ x1.toInt < 0 ∨ 10 < x1.toInt → ((-2) : Int32).toInt = -2 ∧ l_s.toInt = l_s.toInt) ∧ (0 ≤ x0.toInt → x0.toInt ≤ 12 → 0 ≤ x1.toInt → x1.toInt ≤ 10 → l_s.toInt = x0.toInt) from by have y90 : r50868.toInt = (0 : Int32).toInt := congrArg Int32.toInt c50869; have y91 : Rg 0 0 r50868 := g50880; have y92 : Rg 0 12 l_s := p_s; have y93 : Rg 0 12 l_t := p_t; have y94 : Rg 0 12 l_i := p_i; have y95 : Rg 0 120 l_tp := p_tp; have y96 : Rg 0 40 l_n0 := p_n0; have y97 : Rg 0 40 l_n1 := p_n1; have y98 : Rg 0 40 l_n2 := p_n2; have y99 : Rg 0 40 l_n3 := p_n3; have y9c10 : ((-2) : Int32).toInt = -2 := (by decide); have y9c11 : (0 : Int32).toInt = 0 := (by decide); have y9c12 : (1 : Int32).toInt = 1 := (by decide); omega), ⟨fun _ => rfl, fun _ _ _ _ => (by have y90 : r50868.toInt = (0 : Int32).toInt := congrArg Int32.toInt c50869; have y91 : Rg 0 0 r50868 := g50880; have y92 : Rg 0 12 l_s := p_s; have y93 : Rg 0 12 l_t := p_t; have y94 : Rg 0 12 l_i := p_i; have y95 : Rg 0 120 l_tp := p_tp; have y96 : Rg 0 40 l_n0 := p_n0; have y97 : Rg 0 40 l_n1 := p_n1; have y98 : Rg 0 40 l_n2 := p_n2; have y99 : Rg 0 40 l_n3 := p_n3; have y9c10 : ((-2) : Int32).toInt = -2 := (by decide); have y9c11 : (0 : Int32).toInt = 0 := (by decide); have y9c12 : (1 : Int32).toInt = 1 := (by decide); skip; omega)⟩⟩, by rw [ht]; exact hP, hD⟩, hS.F ht⟩) hS.2.2 dX11_deal_10
