set_option maxHeartbeats 4000000 in
set_option maxRecDepth 100000 in
theorem k_X2_dealAnew_3 (l : Launch) (D : va_G) (cI cS : ClassId) (sz : Nat) (a : Nat → Nat) (na nc N : Nat) (l_s l_t l_i l_kp l_iz l_z l_tp l_o0 l_o1 l_o2 l_o3 l_n0 l_n1 l_n2 l_n3 : Int32) (u0 : SU) (hL : TyX (mkL l_s l_t l_i l_kp l_iz l_z l_tp l_o0 l_o1 l_o2 l_o3 l_n0 l_n1 l_n2 l_n3)) (hN : N = 0 ∨ N = 24576) (x0 x1 : Int32) (px0 : Rg 0 12 x0) : Met l yX2_dealAnew wsX2_dealAnew ({ frames := 3, cells := 0, slots := 0, locals := 120 }) (PQ D cI cS (wX cI cS a na nc N (mkL l_s l_t l_i l_kp l_iz l_z l_tp l_o0 l_o1 l_o2 l_o3 l_n0 l_n1 l_n2 l_n3) u0) sz [.ref (a 3), .int x0, .int x1, .ref (a 20)]) (QE (S := Int32 × Int32 × SU) D (wX cI cS a na nc N (mkL l_s l_t l_i l_kp l_iz l_z l_tp l_o0 l_o1 l_o2 l_o3 l_n0 l_n1 l_n2 l_n3) u0) (fun q => wX cI cS a na nc N (mkL l_s q.1 l_i l_kp l_iz q.2.1 l_tp l_o0 l_o1 l_o2 l_o3 l_n0 l_n1 l_n2 l_n3) q.2.2) sz (fun q => Rg 0 12 q.1 ∧ (q.1.toInt = x0.toInt) ∧ (q.2.1.toInt = (zout x0.toNatClampNeg l_z x0.toNatClampNeg).toInt))) 0 0 (va_A (wX cI cS a na nc N (mkL l_s l_t l_i l_kp l_iz l_z l_tp l_o0 l_o1 l_o2 l_o3 l_n0 l_n1 l_n2 l_n3) u0) sz) := by
  refine Met.ofW (cc := cX2_dealAnew) (maxL := 6) (ret := none) (by decide) rfl ?_
  intro p e s m args below meth c s₁ B hml hv
  obtain ⟨rfl, hsz, hP, hKK, hD0⟩ := hv
  have hx := B.exec
  have hb := B.bytes
  have hr := B.returns
  have hts := atoms_spec (ws := wsX2_dealAnew) B.pre
  have hown : s.vm.findClass RX2 = some m.cls := findClass_of_methodNamed B.named
  have hlocks := B.notSynchronized
  have hK := hKK.1
  have hin2 : ∀ w ∈ wsX20, w ∈ wsX2_dealAnew := by decide +kernel
  subst hsz
  have hD := hD0.self (sz := s.heap.size)
  obtain ⟨A, hAe⟩ : ∃ A, A = va_A (wX cI cS a na nc N (mkL l_s l_t l_i l_kp l_iz l_z l_tp l_o0 l_o1 l_o2 l_o3 l_n0 l_n1 l_n2 l_n3) u0) s.heap.size := ⟨_, rfl⟩
  rw [← hAe] at hD
  have hA : ∀ q : Nat, s.heap.size ≤ q → A q := fun q h => by rw [hAe]; exact Or.inr h
  have hS : va_S A s.heap s.heap [] := va_S.rf
  have hl := lv_entry ([.ref (a 3), .int x0, .int x1, .ref (a 20)]) (n := 6) (Nat.le_of_ble_eq_true rfl)
  rw [lg_entry_eq]
  generalize (lg_sl ([.ref (a 3), .int x0, .int x1, .ref (a 20)]) ++ List.replicate (6 - (lg_sl ([.ref (a 3), .int x0, .int x1, .ref (a 20)])).length) Slot.unset).toArray = ls at hl ⊢
  have hl : lv_has ls 6 [(0, .ref (a 3)), (1, .int x0), (2, .int x1), (3, .ref (a 20))] := hl
  obtain ⟨u, hu9⟩ : ∃ u : SU, u = u0 := ⟨_, rfl⟩
  rw [← hu9] at hP hD
  have p_s : Rg 0 12 l_s := hL.1
  have p_t : Rg 0 12 l_t := hL.2.1
  have p_i : Rg 0 12 l_i := hL.2.2.1
  have p_tp : Rg 0 120 l_tp := hL.2.2.2.1
  have p_n0 : Rg 0 40 l_n0 := hL.2.2.2.2.1
  have p_n1 : Rg 0 40 l_n1 := hL.2.2.2.2.2.1
  have p_n2 : Rg 0 40 l_n2 := hL.2.2.2.2.2.2.1
  have p_n3 : Rg 0 40 l_n3 := hL.2.2.2.2.2.2.2
  have lp12 : ∀ (n12 : Nat) (y12_l4 : Int32) (y12_kt : Int32) (y12_kz : Int32) (u : SU) (H : Heap) (locs : List Loc) (ls : Array Slot), Rg 0 12 y12_l4 → Rg 0 12 y12_kt → (y12_kt.toInt = x0.toInt ∧ (y12_kz = zout x0.toNatClampNeg l_z y12_l4.toNatClampNeg ∧ y12_l4.toInt ≤ x0.toInt)) → va_P D cls (wX cI cS a na nc N (mkL l_s y12_kt l_i l_kp l_iz y12_kz l_tp l_o0 l_o1 l_o2 l_o3 l_n0 l_n1 l_n2 l_n3) u) H → va_D A (wX cI cS a na nc N (mkL l_s y12_kt l_i l_kp l_iz y12_kz l_tp l_o0 l_o1 l_o2 l_o3 l_n0 l_n1 l_n2 l_n3) u) → va_S A s.heap H locs → lv_has ls 6 [(0, .ref (a 3)), (2, .int x1), (3, .ref (a 20)), (4, .int y12_l4)] → 12 - y12_l4.toInt < (n12 : Int) → W p l e (headSpec wsX2_dealAnew ({ frames := 3, cells := 0, slots := 0, locals := 120 })).room s m ([.ref (a 3), .int x0, .int x1, .ref (a 20)]).toArray below meth c H locs 0 0 (MQ below (QE (S := Int32 × Int32 × SU) D (wX cI cS a na nc N (mkL l_s l_t l_i l_kp l_iz l_z l_tp l_o0 l_o1 l_o2 l_o3 l_n0 l_n1 l_n2 l_n3) u0) (fun q => wX cI cS a na nc N (mkL l_s q.1 l_i l_kp l_iz q.2.1 l_tp l_o0 l_o1 l_o2 l_o3 l_n0 l_n1 l_n2 l_n3) q.2.2) s.heap.size (fun q => Rg 0 12 q.1 ∧ (q.1.toInt = x0.toInt) ∧ (q.2.1.toInt = (zout x0.toNatClampNeg l_z x0.toNatClampNeg).toInt))) ([.ref (a 3), .int x0, .int x1, .ref (a 20)]).toArray s 0 0 (va_A (wX cI cS a na nc N (mkL l_s l_t l_i l_kp l_iz l_z l_tp l_o0 l_o1 l_o2 l_o3 l_n0 l_n1 l_n2 l_n3) u0) s.heap.size)) (F0 m 12 ls []) := by
    intro n12
    induction n12 with
    | zero =>
      intro y12_l4 y12_kt y12_kz u H locs ls g12_l4 g12_kt x12_0 hP hD hS hl hm12
      exact absurd rfl (me_z g12_l4 hm12)
    | succ n12 ih12 =>
      intro y12_l4 y12_kt y12_kz u H locs ls g12_l4 g12_kt x12_0 hP hD hS hl hm12
      have lp27 : ∀ (n27 : Nat) (y27_l5 : Int32) (y27_kz : Int32) (u : SU) (H : Heap) (locs : List Loc) (ls : Array Slot), Rg 0 11 y12_l4 → Rg 1 12 y27_l5 → Rg 1 12 y12_kt → (y12_kt.toInt = x0.toInt ∧ (y27_kz = zin (zout x0.toNatClampNeg l_z y12_l4.toNatClampNeg) (y27_l5.toNatClampNeg - y12_l4.toNatClampNeg - 1) ∧ y12_l4.toInt < y27_l5.toInt ∧ y27_l5.toInt ≤ x0.toInt)) → va_P D cls (wX cI cS a na nc N (mkL l_s y12_kt l_i l_kp l_iz y27_kz l_tp l_o0 l_o1 l_o2 l_o3 l_n0 l_n1 l_n2 l_n3) u) H → va_D A (wX cI cS a na nc N (mkL l_s y12_kt l_i l_kp l_iz y27_kz l_tp l_o0 l_o1 l_o2 l_o3 l_n0 l_n1 l_n2 l_n3) u) → va_S A s.heap H locs → lv_has ls 6 [(0, .ref (a 3)), (2, .int x1), (3, .ref (a 20)), (4, .int y12_l4), (5, .int y27_l5)] → 12 - y27_l5.toInt < (n27 : Int) → W p l e (headSpec wsX2_dealAnew ({ frames := 3, cells := 0, slots := 0, locals := 120 })).room s m ([.ref (a 3), .int x0, .int x1, .ref (a 20)]).toArray below meth c H locs 0 0 (MQ below (QE (S := Int32 × Int32 × SU) D (wX cI cS a na nc N (mkL l_s l_t l_i l_kp l_iz l_z l_tp l_o0 l_o1 l_o2 l_o3 l_n0 l_n1 l_n2 l_n3) u0) (fun q => wX cI cS a na nc N (mkL l_s q.1 l_i l_kp l_iz q.2.1 l_tp l_o0 l_o1 l_o2 l_o3 l_n0 l_n1 l_n2 l_n3) q.2.2) s.heap.size (fun q => Rg 0 12 q.1 ∧ (q.1.toInt = x0.toInt) ∧ (q.2.1.toInt = (zout x0.toNatClampNeg l_z x0.toNatClampNeg).toInt))) ([.ref (a 3), .int x0, .int x1, .ref (a 20)]).toArray s 0 0 (va_A (wX cI cS a na nc N (mkL l_s l_t l_i l_kp l_iz l_z l_tp l_o0 l_o1 l_o2 l_o3 l_n0 l_n1 l_n2 l_n3) u0) s.heap.size)) (F0 m 27 ls []) := by
        intro n27
        induction n27 with
        | zero =>
          intro y27_l5 y27_kz u H locs ls g27_l4 g27_l5 g27_kt x27_0 hP hD hS hl hm27
          exact absurd rfl (me_z g27_l5 hm27)
        | succ n27 ih27 =>
          intro y27_l5 y27_kz u H locs ls g27_l4 g27_l5 g27_kt x27_0 hP hD hS hl hm27
          refine lv_iload hx hb dX2_dealAnew_27 (lv_at hl 4 rfl) ?_
          refine lv_aload_n hx hb dX2_dealAnew_29 rfl (lv_at hl 0 rfl) ?_
          refine va_get (D := D) (ci := 2) (v := .int y12_kt) (C := RX2) (T := TX2) (N := 3) hx hb hts hin2 hown hK hP 3 rfl rfl 1 (by decide) (hts (.fieldLink RX2 15 "MissedPoints$Net" "size" "I") (by decide +kernel)) (fun _ h9 => h9) rfl dX2_dealAnew_30 ?_
          refine lv_icmp_ge (tgt := 62) hx hb dX2_dealAnew_33 (by decide) (fun c49321 => ?_) (fun c49321 => ?_)
          · refine wk_iinc (lv' := fun r => [(4, .int r), (0, .ref (a 3)), (2, .int x1), (3, .ref (a 20)), (5, .int y27_l5)]) (e1 := 1) (f := 12) hx hb dX2_dealAnew_62 hl (k := 3) rfl (by decide) g27_l4 (by decide) (fun _ => rfl) (fun r49322 ls hr49322 er49322 hl => ?_)
            refine lv_goto (tgt := 12) hx hb dX2_dealAnew_65 (by decide) ?_
            exact ih12 r49322 y12_kt y27_kz u _ _ ls (show Rg 0 12 r49322 from rg_w hr49322 (by decide) (by decide)) (show Rg 0 12 y12_kt from rg_w g27_kt (by decide) (by decide)) (by have y90 : y12_kt.toInt ≤ y27_l5.toInt := (lz_le _ _).mp c49321; have y91 : Rg 1 12 r49322 := hr49322; have y92 : Rg 1 12 y27_l5 := g27_l5; have y93 : Rg 0 12 l_s := p_s; have y94 : Rg 1 12 y12_kt := g27_kt; have y95 : Rg 0 12 l_i := p_i; have y96 : Rg 0 120 l_tp := p_tp; have y97 : Rg 0 40 l_n0 := p_n0; have y98 : Rg 0 40 l_n1 := p_n1; have y99 : Rg 0 40 l_n2 := p_n2; have y910 : Rg 0 40 l_n3 := p_n3; have y9c11 : (0 : Int32).toInt = 0 := (by decide); have y9c12 : (1 : Int32).toInt = 1 := (by decide); exact ⟨by omega, zi_2 (b := y27_l5) x27_0.2.1 g12_l4.1 (by omega) (by omega) er49322, by omega⟩) hP hD hS (lv_sub (l' := [(0, .ref (a 3)), (2, .int x1), (3, .ref (a 20)), (4, .int r49322)]) hl [1, 2, 3, 0] rfl) (me_up hm12 er49322 (by decide))
          · have g49323 : Rg 2 12 y12_kt := rg_ltr g27_l5 g27_kt (rg_nle c49321) (by decide)
            have g49324 : Rg 1 11 y27_l5 := rg_ltl g27_l5 g27_kt (rg_nle c49321) (by decide)
            refine lv_aload_n hx hb dX2_dealAnew_36 rfl (lv_at hl 2 rfl) ?_
            refine wk_qi (S := Int32 × SU) (fun q => wX cI cS a na nc N (mkL l_s y12_kt l_i l_kp l_iz q.1 l_tp l_o0 l_o1 l_o2 l_o3 l_n0 l_n1 l_n2 l_n3) q.2) (y27_kz, u) (As := []) (rest := []) ⟨hx, hb, hml, hown, hts⟩ (k_X0_draw l D cI cS _ a na nc N l_s y12_kt l_i l_kp l_iz y27_kz l_tp l_o0 l_o1 l_o2 l_o3 l_n0 l_n1 l_n2 l_n3 u (show TyX (mkL l_s y12_kt l_i l_kp l_iz y27_kz l_tp l_o0 l_o1 l_o2 l_o3 l_n0 l_n1 l_n2 l_n3) from ⟨p_s, (show Rg 0 12 y12_kt from rg_w g49323 (by decide) (by decide)), p_i, p_tp, p_n0, p_n1, p_n2, p_n3⟩) hN) hKK hP hD hS hA 20 (ci := 0) rfl rfl (cwV 0 hts gX2_dealAnew_X0_draw rfl rfl rfl (by decide +kernel) ⟨Nat.le_of_ble_eq_true rfl, Nat.le_of_ble_eq_true rfl⟩) rfl hl.1 rfl (Nat.le_of_ble_eq_true rfl) dX2_dealAnew_37 ⟨Nat.le_of_ble_eq_true rfl, Nat.le_of_ble_eq_true rfl⟩ (fun r49325 q9 H locs hr49325 hP hD hS => ?_)
            obtain ⟨r49326, u⟩ := q9
            have hr49325 : Rg (-2147483648) 2147483647 r49325 ∧ (r49326 = zsN y27_kz) := hr49325
            have hP : va_P D cls (wX cI cS a na nc N (mkL l_s y12_kt l_i l_kp l_iz r49326 l_tp l_o0 l_o1 l_o2 l_o3 l_n0 l_n1 l_n2 l_n3) u) H := hP
            have hD : va_D A (wX cI cS a na nc N (mkL l_s y12_kt l_i l_kp l_iz r49326 l_tp l_o0 l_o1 l_o2 l_o3 l_n0 l_n1 l_n2 l_n3) u) := hD
            have kr49325_0 := hr49325.2
            refine lv_bipush (v := 10) hx hb dX2_dealAnew_40 (by decide) ?_
            refine lv_irem hx hb dX2_dealAnew_42 (by decide) ?_
            refine wk_any (fun r49327 => ?_)
            refine lv_iload_n hx hb dX2_dealAnew_43 rfl (lv_at hl 1 rfl) ?_
            refine lv_icmp_ge (tgt := 56) hx hb dX2_dealAnew_44 (by decide) (fun c49328 => ?_) (fun c49328 => ?_)
            · refine wk_iinc (lv' := fun r => [(5, .int r), (0, .ref (a 3)), (2, .int x1), (3, .ref (a 20)), (4, .int y12_l4)]) (e1 := 2) (f := 12) hx hb dX2_dealAnew_56 hl (k := 4) rfl (by decide) g49324 (by decide) (fun _ => rfl) (fun r49329 ls hr49329 er49329 hl => ?_)
              refine lv_goto (tgt := 27) hx hb dX2_dealAnew_59 (by decide) ?_
              exact ih27 r49329 r49326 u _ _ ls g27_l4 (show Rg 1 12 r49329 from rg_w hr49329 (by decide) (by decide)) (show Rg 1 12 y12_kt from rg_w g49323 (by decide) (by decide)) (by have y90 : y27_l5.toInt < y12_kt.toInt := (lz_lt _ _).mp (rg_nle c49321); have y91 : x1.toInt ≤ r49327.toInt := (lz_le _ _).mp c49328; have y92 : Rg 2 12 y12_kt := g49323; have y93 : Rg 1 11 y27_l5 := g49324; have y94 : Rg 0 11 y12_l4 := g27_l4; have y95 : Rg 2 12 r49329 := hr49329; have y96 : Rg 0 12 l_s := p_s; have y97 : Rg 2 12 y12_kt := g49323; have y98 : Rg 0 12 l_i := p_i; have y99 : Rg 0 120 l_tp := p_tp; have y910 : Rg 0 40 l_n0 := p_n0; have y911 : Rg 0 40 l_n1 := p_n1; have y912 : Rg 0 40 l_n2 := p_n2; have y913 : Rg 0 40 l_n3 := p_n3; have y9c14 : (0 : Int32).toInt = 0 := (by decide); have y9c15 : (1 : Int32).toInt = 1 := (by decide); exact ⟨by omega, zi_1 x27_0.2.1 g12_l4.1 (by omega) er49329 kr49325_0, by omega, by omega⟩) hP hD hS (lv_sub (l' := [(0, .ref (a 3)), (2, .int x1), (3, .ref (a 20)), (4, .int y12_l4), (5, .int r49329)]) hl [1, 2, 3, 4, 0] rfl) (me_up hm27 er49329 (by decide))
            · refine lv_aload_n hx hb dX2_dealAnew_47 rfl (lv_at hl 0 rfl) ?_
              refine lv_iload hx hb dX2_dealAnew_48 (lv_at hl 3 rfl) ?_
              refine lv_iload hx hb dX2_dealAnew_50 (lv_at hl 4 rfl) ?_
              refine lv_iconst (v := 1) hx hb dX2_dealAnew_52 (by decide) ?_
              refine wk_qv (wX cI cS a na nc N (mkL l_s y12_kt l_i l_kp l_iz r49326 l_tp l_o0 l_o1 l_o2 l_o3 l_n0 l_n1 l_n2 l_n3)) u (As := [.int y12_l4, .int y27_l5, .int 1]) (rest := []) ⟨hx, hb, hml, hown, hts⟩ (k_X2_join_3 l D cI cS _ a na nc N (mkL l_s y12_kt l_i l_kp l_iz r49326 l_tp l_o0 l_o1 l_o2 l_o3 l_n0 l_n1 l_n2 l_n3) u (show TyX (mkL l_s y12_kt l_i l_kp l_iz r49326 l_tp l_o0 l_o1 l_o2 l_o3 l_n0 l_n1 l_n2 l_n3) from ⟨p_s, (show Rg 0 12 y12_kt from rg_w g49323 (by decide) (by decide)), p_i, p_tp, p_n0, p_n1, p_n2, p_n3⟩) hN y12_l4 y27_l5 (1 : Int32) (by decide : Rg 0 1 (1 : Int32))) hKK hP hD hS hA 3 (ci := 2) rfl rfl (cwV 3 hts gX2_dealAnew_X2_join rfl rfl rfl (by decide +kernel) ⟨Nat.le_of_ble_eq_true rfl, Nat.le_of_ble_eq_true rfl⟩) rfl hl.1 rfl (Nat.le_of_ble_eq_true rfl) dX2_dealAnew_53 ⟨Nat.le_of_ble_eq_true rfl, Nat.le_of_ble_eq_true rfl⟩ (fun u H locs hr49330 hP hD hS => ?_)
              refine wk_iinc (lv' := fun r => [(5, .int r), (0, .ref (a 3)), (2, .int x1), (3, .ref (a 20)), (4, .int y12_l4)]) (e1 := 2) (f := 12) hx hb dX2_dealAnew_56 hl (k := 4) rfl (by decide) g49324 (by decide) (fun _ => rfl) (fun r49331 ls hr49331 er49331 hl => ?_)
              refine lv_goto (tgt := 27) hx hb dX2_dealAnew_59 (by decide) ?_
              exact ih27 r49331 r49326 u _ _ ls g27_l4 (show Rg 1 12 r49331 from rg_w hr49331 (by decide) (by decide)) (show Rg 1 12 y12_kt from rg_w g49323 (by decide) (by decide)) (by have y90 : y27_l5.toInt < y12_kt.toInt := (lz_lt _ _).mp (rg_nle c49321); have y91 : r49327.toInt < x1.toInt := (lz_lt _ _).mp (rg_nle c49328); have y92 : Rg 2 12 y12_kt := g49323; have y93 : Rg 1 11 y27_l5 := g49324; have y94 : Rg 0 11 y12_l4 := g27_l4; have y95 : Rg 2 12 r49331 := hr49331; have y96 : Rg 0 12 l_s := p_s; have y97 : Rg 2 12 y12_kt := g49323; have y98 : Rg 0 12 l_i := p_i; have y99 : Rg 0 120 l_tp := p_tp; have y910 : Rg 0 40 l_n0 := p_n0; have y911 : Rg 0 40 l_n1 := p_n1; have y912 : Rg 0 40 l_n2 := p_n2; have y913 : Rg 0 40 l_n3 := p_n3; have y9c14 : (0 : Int32).toInt = 0 := (by decide); have y9c15 : (1 : Int32).toInt = 1 := (by decide); exact ⟨by omega, zi_1 x27_0.2.1 g12_l4.1 (by omega) er49331 kr49325_0, by omega, by omega⟩) hP hD hS (lv_sub (l' := [(0, .ref (a 3)), (2, .int x1), (3, .ref (a 20)), (4, .int y12_l4), (5, .int r49331)]) hl [1, 2, 3, 4, 0] rfl) (me_up hm27 er49331 (by decide))
      refine lv_iload hx hb dX2_dealAnew_12 (lv_at hl 3 rfl) ?_
      refine lv_aload_n hx hb dX2_dealAnew_14 rfl (lv_at hl 0 rfl) ?_
      refine va_get (D := D) (ci := 2) (v := .int y12_kt) (C := RX2) (T := TX2) (N := 3) hx hb hts hin2 hown hK hP 3 rfl rfl 1 (by decide) (hts (.fieldLink RX2 15 "MissedPoints$Net" "size" "I") (by decide +kernel)) (fun _ h9 => h9) rfl dX2_dealAnew_15 ?_
      refine lv_icmp_ge (tgt := 68) hx hb dX2_dealAnew_18 (by decide) (fun c49332 => ?_) (fun c49332 => ?_)
      · subst hAe
        exact W.vret hx hb hr (fun t ht hW => ⟨⟨(y12_kt, y12_kz, u), rfl, ⟨g12_kt, (show y12_kt.toInt = x0.toInt from by have y90 : y12_kt.toInt ≤ y12_l4.toInt := (lz_le _ _).mp c49332; have y91 : Rg 0 12 y12_l4 := g12_l4; have y92 : Rg 0 12 l_s := p_s; have y93 : Rg 0 12 y12_kt := g12_kt; have y94 : Rg 0 12 l_i := p_i; have y95 : Rg 0 120 l_tp := p_tp; have y96 : Rg 0 40 l_n0 := p_n0; have y97 : Rg 0 40 l_n1 := p_n1; have y98 : Rg 0 40 l_n2 := p_n2; have y99 : Rg 0 40 l_n3 := p_n3; have y9c10 : (0 : Int32).toInt = 0 := (by decide); have y9c11 : (1 : Int32).toInt = 1 := (by decide); omega), (zo_1 x12_0.2.1 (by have y90 : y12_kt.toInt ≤ y12_l4.toInt := (lz_le _ _).mp c49332; have y91 : Rg 0 12 y12_l4 := g12_l4; have y92 : Rg 0 12 l_s := p_s; have y93 : Rg 0 12 y12_kt := g12_kt; have y94 : Rg 0 12 l_i := p_i; have y95 : Rg 0 120 l_tp := p_tp; have y96 : Rg 0 40 l_n0 := p_n0; have y97 : Rg 0 40 l_n1 := p_n1; have y98 : Rg 0 40 l_n2 := p_n2; have y99 : Rg 0 40 l_n3 := p_n3; have y9c10 : (0 : Int32).toInt = 0 := (by decide); have y9c11 : (1 : Int32).toInt = 1 := (by decide); omega))⟩, by rw [ht]; exact hP, hD⟩, hS.F ht⟩) hS.2.2 dX2_dealAnew_68
      · have g49333 : Rg 1 12 y12_kt := rg_ltr g12_l4 g12_kt (rg_nle c49332) (by decide)
        have g49334 : Rg 0 11 y12_l4 := rg_ltl g12_l4 g12_kt (rg_nle c49332) (by decide)
        refine lv_iload hx hb dX2_dealAnew_21 (lv_at hl 3 rfl) ?_
        refine lv_iconst (v := 1) hx hb dX2_dealAnew_23 (by decide) ?_
        refine wk_iadd (e1 := 1) (f := 12) hx hb dX2_dealAnew_24 g49334 (by decide : Rg 1 1 (1 : Int32)) (by decide) (fun r49335 hr49335 er49335 qr49335 => ?_)
        refine lv_istore (lv' := [(5, .int r49335), (0, .ref (a 3)), (2, .int x1), (3, .ref (a 20)), (4, .int y12_l4)]) hx hb dX2_dealAnew_25 hl (by decide) rfl (fun ls hl => ?_)
        exact lp27 12 r49335 y12_kz u _ _ ls g49334 hr49335 g49333 (by have y90 : y12_l4.toInt < y12_kt.toInt := (lz_lt _ _).mp (rg_nle c49332); have y91 : Rg 1 12 y12_kt := g49333; have y92 : Rg 0 11 y12_l4 := g49334; have y93 : Rg 0 11 y12_l4 := g49334; have y94 : Rg 1 12 r49335 := hr49335; have y95 : Rg 0 12 l_s := p_s; have y96 : Rg 1 12 y12_kt := g49333; have y97 : Rg 0 12 l_i := p_i; have y98 : Rg 0 120 l_tp := p_tp; have y99 : Rg 0 40 l_n0 := p_n0; have y910 : Rg 0 40 l_n1 := p_n1; have y911 : Rg 0 40 l_n2 := p_n2; have y912 : Rg 0 40 l_n3 := p_n3; have y9c13 : (0 : Int32).toInt = 0 := (by decide); have y9c14 : (1 : Int32).toInt = 1 := (by decide); exact ⟨by omega, zi_0 x12_0.2.1 g12_l4.1 er49335, by omega, by omega⟩) hP hD hS (lv_sub (l' := [(0, .ref (a 3)), (2, .int x1), (3, .ref (a 20)), (4, .int y12_l4), (5, .int r49335)]) hl [1, 2, 3, 4, 0] rfl) (me_i hr49335 (by decide))
  refine lv_aload_n hx hb dX2_dealAnew_0 rfl (lv_at hl 0 rfl) ?_
  refine wk_qv (S := Int32 × SU) (fun q => wX cI cS a na nc N (mkL l_s q.1 l_i l_kp l_iz l_z l_tp l_o0 l_o1 l_o2 l_o3 l_n0 l_n1 l_n2 l_n3) q.2) (l_t, u) (As := []) (rest := []) ⟨hx, hb, hml, hown, hts⟩ (k_X2_empty_3 l D cI cS _ a na nc N l_s l_t l_i l_kp l_iz l_z l_tp l_o0 l_o1 l_o2 l_o3 l_n0 l_n1 l_n2 l_n3 u (show TyX (mkL l_s l_t l_i l_kp l_iz l_z l_tp l_o0 l_o1 l_o2 l_o3 l_n0 l_n1 l_n2 l_n3) from ⟨p_s, p_t, p_i, p_tp, p_n0, p_n1, p_n2, p_n3⟩) hN) hKK hP hD hS hA 3 (ci := 2) rfl rfl (cwV 0 hts gX2_dealAnew_X2_empty rfl rfl rfl (by decide +kernel) ⟨Nat.le_of_ble_eq_true rfl, Nat.le_of_ble_eq_true rfl⟩) rfl hl.1 rfl (Nat.le_of_ble_eq_true rfl) dX2_dealAnew_1 ⟨Nat.le_of_ble_eq_true rfl, Nat.le_of_ble_eq_true rfl⟩ (fun q9 H locs hr49336 hP hD hS => ?_)
  obtain ⟨r49337, u⟩ := q9
  have hr49336 : Rg 0 0 r49337 ∧ (r49337.toInt = 0) := hr49336
  have hP : va_P D cls (wX cI cS a na nc N (mkL l_s r49337 l_i l_kp l_iz l_z l_tp l_o0 l_o1 l_o2 l_o3 l_n0 l_n1 l_n2 l_n3) u) H := hP
  have hD : va_D A (wX cI cS a na nc N (mkL l_s r49337 l_i l_kp l_iz l_z l_tp l_o0 l_o1 l_o2 l_o3 l_n0 l_n1 l_n2 l_n3) u) := hD
  have kr49336_0 := hr49336.2
  refine lv_aload_n hx hb dX2_dealAnew_4 rfl (lv_at hl 0 rfl) ?_
  refine lv_iload_n hx hb dX2_dealAnew_5 rfl (lv_at hl 1 rfl) ?_
  refine wk_qv (S := Int32 × SU) (fun q => wX cI cS a na nc N (mkL l_s q.1 l_i l_kp l_iz l_z l_tp l_o0 l_o1 l_o2 l_o3 l_n0 l_n1 l_n2 l_n3) q.2) (r49337, u) (As := [.int x0]) (rest := []) ⟨hx, hb, hml, hown, hts⟩ (k_X2_add_3 l D cI cS _ a na nc N l_s r49337 l_i l_kp l_iz l_z l_tp l_o0 l_o1 l_o2 l_o3 l_n0 l_n1 l_n2 l_n3 u (show TyX (mkL l_s r49337 l_i l_kp l_iz l_z l_tp l_o0 l_o1 l_o2 l_o3 l_n0 l_n1 l_n2 l_n3) from ⟨p_s, (show Rg 0 12 r49337 from rg_w hr49336.1 (by decide) (by decide)), p_i, p_tp, p_n0, p_n1, p_n2, p_n3⟩) hN x0 px0) hKK hP hD hS hA 3 (ci := 2) rfl rfl (cwV 1 hts gX2_dealAnew_X2_add rfl rfl rfl (by decide +kernel) ⟨Nat.le_of_ble_eq_true rfl, Nat.le_of_ble_eq_true rfl⟩) rfl hl.1 rfl (Nat.le_of_ble_eq_true rfl) dX2_dealAnew_6 ⟨Nat.le_of_ble_eq_true rfl, Nat.le_of_ble_eq_true rfl⟩ (fun q9 H locs hr49338 hP hD hS => ?_)
  obtain ⟨r49339, u⟩ := q9
  have hr49338 : Rg 0 12 r49339 ∧ ((r49337.toInt + x0.toInt ≤ 12 → r49339.toInt = r49337.toInt + x0.toInt)) := hr49338
  have hP : va_P D cls (wX cI cS a na nc N (mkL l_s r49339 l_i l_kp l_iz l_z l_tp l_o0 l_o1 l_o2 l_o3 l_n0 l_n1 l_n2 l_n3) u) H := hP
  have hD : va_D A (wX cI cS a na nc N (mkL l_s r49339 l_i l_kp l_iz l_z l_tp l_o0 l_o1 l_o2 l_o3 l_n0 l_n1 l_n2 l_n3) u) := hD
  have kr49338_0 := hr49338.2
  refine lv_iconst (v := 0) hx hb dX2_dealAnew_9 (by decide) ?_
  refine lv_istore (lv' := [(4, .int 0), (0, .ref (a 3)), (1, .int x0), (2, .int x1), (3, .ref (a 20))]) hx hb dX2_dealAnew_10 hl (by decide) rfl (fun ls hl => ?_)
  exact lp12 13 (0 : Int32) r49339 l_z u _ _ ls (by decide : Rg 0 12 (0 : Int32)) hr49338.1 (by have y90 : Rg 0 12 x0 := px0; have y91 : Rg 0 12 l_s := p_s; have y92 : Rg 0 12 r49339 := hr49338.1; have y93 : Rg 0 12 l_i := p_i; have y94 : Rg 0 120 l_tp := p_tp; have y95 : Rg 0 40 l_n0 := p_n0; have y96 : Rg 0 40 l_n1 := p_n1; have y97 : Rg 0 40 l_n2 := p_n2; have y98 : Rg 0 40 l_n3 := p_n3; have y9c9 : (0 : Int32).toInt = 0 := (by decide); have y9c10 : (1 : Int32).toInt = 1 := (by decide); exact ⟨by omega, zo_0, by omega⟩) hP hD hS (lv_sub (l' := [(0, .ref (a 3)), (2, .int x1), (3, .ref (a 20)), (4, .int 0)]) hl [1, 3, 4, 0] rfl) (me_i (by decide : Rg 0 12 (0 : Int32)) (by decide))
theorem dX2_become_0 : decode cX2_become 0 = .ok (.aload_n 1, 1) := by decide +kernel
theorem dX2_become_1 : decode cX2_become 1 = .ok (.getfield 9, 3) := by decide +kernel
theorem dX2_become_10 : decode cX2_become 10 = .ok (.bipush 12, 2) := by decide +kernel
theorem dX2_become_12 : decode cX2_become 12 = .ok (.invokestatic 47, 3) := by decide +kernel
theorem dX2_become_15 : decode cX2_become 15 = .ok (.aload_n 0, 1) := by decide +kernel
theorem dX2_become_16 : decode cX2_become 16 = .ok (.aload_n 1, 1) := by decide +kernel
theorem dX2_become_17 : decode cX2_become 17 = .ok (.getfield 15, 3) := by decide +kernel
theorem dX2_become_20 : decode cX2_become 20 = .ok (.putfield 15, 3) := by decide +kernel
theorem dX2_become_23 : decode cX2_become 23 = .ok (.aload_n 0, 1) := by decide +kernel
theorem dX2_become_24 : decode cX2_become 24 = .ok (.dup, 1) := by decide +kernel
theorem dX2_become_25 : decode cX2_become 25 = .ok (.getfield 33, 3) := by decide +kernel
theorem dX2_become_28 : decode cX2_become 28 = .ok (.iconst 1, 1) := by decide +kernel
theorem dX2_become_29 : decode cX2_become 29 = .ok (.iadd, 1) := by decide +kernel
theorem dX2_become_30 : decode cX2_become 30 = .ok (.putfield 33, 3) := by decide +kernel
theorem dX2_become_33 : decode cX2_become 33 = .ok (.return_, 1) := by decide +kernel
theorem dX2_become_4 : decode cX2_become 4 = .ok (.iconst 0, 1) := by decide +kernel
theorem dX2_become_5 : decode cX2_become 5 = .ok (.aload_n 0, 1) := by decide +kernel
theorem dX2_become_6 : decode cX2_become 6 = .ok (.getfield 9, 3) := by decide +kernel
theorem dX2_become_9 : decode cX2_become 9 = .ok (.iconst 0, 1) := by decide +kernel
set_option maxHeartbeats 4000000 in
set_option maxRecDepth 100000 in
theorem k_X2_become_5 (l : Launch) (D : va_G) (cI cS : ClassId) (sz : Nat) (a : Nat → Nat) (na nc N : Nat) (l_s l_t l_i l_kp l_iz l_z l_tp l_o0 l_o1 l_o2 l_o3 l_n0 l_n1 l_n2 l_n3 : Int32) (u0 : SU) (hL : TyX (mkL l_s l_t l_i l_kp l_iz l_z l_tp l_o0 l_o1 l_o2 l_o3 l_n0 l_n1 l_n2 l_n3)) (hN : N = 0 ∨ N = 24576) : Met l yX2_become wsX2_become ({ frames := 1, cells := 0, slots := 0, locals := 40 }) (PQ D cI cS (wX cI cS a na nc N (mkL l_s l_t l_i l_kp l_iz l_z l_tp l_o0 l_o1 l_o2 l_o3 l_n0 l_n1 l_n2 l_n3) u0) sz [.ref (a 5), .ref (a 1)]) (QE (S := Int32 × SU) D (wX cI cS a na nc N (mkL l_s l_t l_i l_kp l_iz l_z l_tp l_o0 l_o1 l_o2 l_o3 l_n0 l_n1 l_n2 l_n3) u0) (fun q => wX cI cS a na nc N (mkL l_s l_t q.1 l_kp l_iz l_z l_tp l_o0 l_o1 l_o2 l_o3 l_n0 l_n1 l_n2 l_n3) q.2) sz (fun q => Rg 0 12 q.1 ∧ (q.1.toInt = l_s.toInt))) 0 0 (va_A (wX cI cS a na nc N (mkL l_s l_t l_i l_kp l_iz l_z l_tp l_o0 l_o1 l_o2 l_o3 l_n0 l_n1 l_n2 l_n3) u0) sz) := by
  refine Met.ofW (cc := cX2_become) (maxL := 2) (ret := none) (by decide) rfl ?_
  intro p e s m args below meth c s₁ B hml hv
  obtain ⟨rfl, hsz, hP, hKK, hD0⟩ := hv
  have hx := B.exec
  have hb := B.bytes
  have hr := B.returns
  have hts := atoms_spec (ws := wsX2_become) B.pre
  have hown : s.vm.findClass RX2 = some m.cls := findClass_of_methodNamed B.named
  have hlocks := B.notSynchronized
  have hK := hKK.1
  have hin2 : ∀ w ∈ wsX20, w ∈ wsX2_become := by decide +kernel
  subst hsz
  have hD := hD0.self (sz := s.heap.size)
  obtain ⟨A, hAe⟩ : ∃ A, A = va_A (wX cI cS a na nc N (mkL l_s l_t l_i l_kp l_iz l_z l_tp l_o0 l_o1 l_o2 l_o3 l_n0 l_n1 l_n2 l_n3) u0) s.heap.size := ⟨_, rfl⟩
  rw [← hAe] at hD
  have hA : ∀ q : Nat, s.heap.size ≤ q → A q := fun q h => by rw [hAe]; exact Or.inr h
  have hS : va_S A s.heap s.heap [] := va_S.rf
  have hl := lv_entry ([.ref (a 5), .ref (a 1)]) (n := 2) (Nat.le_of_ble_eq_true rfl)
  rw [lg_entry_eq]
  generalize (lg_sl ([.ref (a 5), .ref (a 1)]) ++ List.replicate (2 - (lg_sl ([.ref (a 5), .ref (a 1)])).length) Slot.unset).toArray = ls at hl ⊢
  have hl : lv_has ls 2 [(0, .ref (a 5)), (1, .ref (a 1))] := hl
  obtain ⟨u, hu9⟩ : ∃ u : SU, u = u0 := ⟨_, rfl⟩
  rw [← hu9] at hP hD
  have p_s : Rg 0 12 l_s := hL.1
  have p_t : Rg 0 12 l_t := hL.2.1
  have p_i : Rg 0 12 l_i := hL.2.2.1
  have p_tp : Rg 0 120 l_tp := hL.2.2.2.1
  have p_n0 : Rg 0 40 l_n0 := hL.2.2.2.2.1
  have p_n1 : Rg 0 40 l_n1 := hL.2.2.2.2.2.1
  have p_n2 : Rg 0 40 l_n2 := hL.2.2.2.2.2.2.1
  have p_n3 : Rg 0 40 l_n3 := hL.2.2.2.2.2.2.2
  refine lv_aload_n hx hb dX2_become_0 rfl (lv_at hl 1 rfl) ?_
  refine va_get (D := D) (ci := 2) (v := .ref (a 2)) (C := RX2) (T := TX2) (N := 3) hx hb hts hin2 hown hK hP 1 rfl rfl 0 (by decide) (hts (.fieldLink RX2 9 "MissedPoints$Net" "links" "[I") (by decide +kernel)) (fun _ h9 => h9) rfl dX2_become_1 ?_
  refine lv_iconst (v := 0) hx hb dX2_become_4 (by decide) ?_
  refine lv_aload_n hx hb dX2_become_5 rfl (lv_at hl 0 rfl) ?_
  refine va_get (D := D) (ci := 2) (v := .ref (a 6)) (C := RX2) (T := TX2) (N := 3) hx hb hts hin2 hown hK hP 5 rfl rfl 0 (by decide) (hts (.fieldLink RX2 9 "MissedPoints$Net" "links" "[I") (by decide +kernel)) (fun _ h9 => h9) rfl dX2_become_6 ?_
  refine lv_iconst (v := 0) hx hb dX2_become_9 (by decide) ?_
  refine lv_bipush (v := 12) hx hb dX2_become_10 (by decide) ?_
  refine va_copyi hx hb (by rw [hml]; exact hl.1.symm) hown (hts (.methodLink RX2 47 arraycopyName) (by decide +kernel)) (hts (.native arraycopyName) (by decide +kernel)) (hts (.static arraycopyName) (by decide +kernel)) (hts (.initialized "java/lang/System") (by decide +kernel)) hK hP hD hS 2 6 0 0 rfl rfl rfl rfl rfl (by decide) (by decide) (by decide) (by decide) (by decide) (fun _ _ => rfl) (Nat.le_of_ble_eq_true rfl) (Nat.le_of_ble_eq_true rfl) dX2_become_12 (fun H locs hP hD hS => ?_)
  rw [sx_6] at hP hD
  generalize sU u 6 _ = u at hP hD
  refine lv_aload_n hx hb dX2_become_15 rfl (lv_at hl 0 rfl) ?_
  refine lv_aload_n hx hb dX2_become_16 rfl (lv_at hl 1 rfl) ?_
  refine va_get (D := D) (ci := 2) (v := .int l_s) (C := RX2) (T := TX2) (N := 3) hx hb hts hin2 hown hK hP 1 rfl rfl 1 (by decide) (hts (.fieldLink RX2 15 "MissedPoints$Net" "size" "I") (by decide +kernel)) (fun _ h9 => h9) rfl dX2_become_17 ?_
  refine va_put (D := D) (ci := 2) (v := .int l_s) (ty := .int) (C := RX2) (T := TX2) (N := 3) hx hb hts hin2 tyX2 tyX2_ok nmX2 hown hK hP hD hS 5 rfl rfl 1 (by decide) (hts (.fieldLink RX2 15 "MissedPoints$Net" "size" "I") (by decide +kernel)) (fun _ h9 => h9) rfl (by decide +kernel) rfl rfl (Nat.le_of_ble_eq_true rfl) dX2_become_20 (fun H locs hP hD hS => ?_)
  have hP : va_P D cls (wX cI cS a na nc N (mkL l_s l_t l_s l_kp l_iz l_z l_tp l_o0 l_o1 l_o2 l_o3 l_n0 l_n1 l_n2 l_n3) u) H := hP
  have hD : va_D A (wX cI cS a na nc N (mkL l_s l_t l_s l_kp l_iz l_z l_tp l_o0 l_o1 l_o2 l_o3 l_n0 l_n1 l_n2 l_n3) u) := hD
  refine lv_aload_n hx hb dX2_become_23 rfl (lv_at hl 0 rfl) ?_
  refine lv_dup hx hb dX2_become_24 rfl ?_
  refine va_get (D := D) (ci := 2) (v := .int (u 5 2)) (C := RX2) (T := TX2) (N := 3) hx hb hts hin2 hown hK hP 5 rfl rfl 2 (by decide) (hts (.fieldLink RX2 33 "MissedPoints$Net" "changes" "I") (by decide +kernel)) (fun _ h9 => h9) rfl dX2_become_25 ?_
  refine wk_any (fun r49342 => ?_)
  refine lv_iconst (v := 1) hx hb dX2_become_28 (by decide) ?_
  refine lv_iadd hx hb dX2_become_29 ?_
  refine wk_topP (P := fun r => r = r49342 + (1 : Int32)) rfl (fun r49343 qr49343 => ?_)
  refine va_put (D := D) (ci := 2) (v := .int r49343) (ty := .int) (C := RX2) (T := TX2) (N := 3) hx hb hts hin2 tyX2 tyX2_ok nmX2 hown hK hP hD hS 5 rfl rfl 2 (by decide) (hts (.fieldLink RX2 33 "MissedPoints$Net" "changes" "I") (by decide +kernel)) (fun _ h9 => h9) rfl (by decide +kernel) rfl rfl (Nat.le_of_ble_eq_true rfl) dX2_become_30 (fun H locs hP hD hS => ?_)
  rw [sxf_5_2] at hP hD
  generalize sU u 5 _ = u at hP hD
  subst hAe
  exact W.vret hx hb hr (fun t ht hW => ⟨⟨(l_s, u), rfl, ⟨p_s, (show l_s.toInt = l_s.toInt from by have y90 : Rg 0 12 l_s := p_s; have y91 : Rg 0 12 l_t := p_t; have y92 : Rg 0 12 l_s := p_s; have y93 : Rg 0 120 l_tp := p_tp; have y94 : Rg 0 40 l_n0 := p_n0; have y95 : Rg 0 40 l_n1 := p_n1; have y96 : Rg 0 40 l_n2 := p_n2; have y97 : Rg 0 40 l_n3 := p_n3; have y9c8 : (0 : Int32).toInt = 0 := (by decide); have y9c9 : (1 : Int32).toInt = 1 := (by decide); omega)⟩, by rw [ht]; exact hP, hD⟩, hS.F ht⟩) hS.2.2 dX2_become_33
set_option maxHeartbeats 4000000 in
set_option maxRecDepth 100000 in
theorem k_X2_become_1 (l : Launch) (D : va_G) (cI cS : ClassId) (sz : Nat) (a : Nat → Nat) (na nc N : Nat) (l_s l_t l_i l_kp l_iz l_z l_tp l_o0 l_o1 l_o2 l_o3 l_n0 l_n1 l_n2 l_n3 : Int32) (u0 : SU) (hL : TyX (mkL l_s l_t l_i l_kp l_iz l_z l_tp l_o0 l_o1 l_o2 l_o3 l_n0 l_n1 l_n2 l_n3)) (hN : N = 0 ∨ N = 24576) : Met l yX2_become wsX2_become ({ frames := 1, cells := 0, slots := 0, locals := 40 }) (PQ D cI cS (wX cI cS a na nc N (mkL l_s l_t l_i l_kp l_iz l_z l_tp l_o0 l_o1 l_o2 l_o3 l_n0 l_n1 l_n2 l_n3) u0) sz [.ref (a 1), .ref (a 5)]) (QE (S := Int32 × SU) D (wX cI cS a na nc N (mkL l_s l_t l_i l_kp l_iz l_z l_tp l_o0 l_o1 l_o2 l_o3 l_n0 l_n1 l_n2 l_n3) u0) (fun q => wX cI cS a na nc N (mkL q.1 l_t l_i l_kp l_iz l_z l_tp l_o0 l_o1 l_o2 l_o3 l_n0 l_n1 l_n2 l_n3) q.2) sz (fun q => Rg 0 12 q.1 ∧ (q.1.toInt = l_i.toInt))) 0 0 (va_A (wX cI cS a na nc N (mkL l_s l_t l_i l_kp l_iz l_z l_tp l_o0 l_o1 l_o2 l_o3 l_n0 l_n1 l_n2 l_n3) u0) sz) := by
  refine Met.ofW (cc := cX2_become) (maxL := 2) (ret := none) (by decide) rfl ?_
  intro p e s m args below meth c s₁ B hml hv
  obtain ⟨rfl, hsz, hP, hKK, hD0⟩ := hv
  have hx := B.exec
  have hb := B.bytes
  have hr := B.returns
  have hts := atoms_spec (ws := wsX2_become) B.pre
  have hown : s.vm.findClass RX2 = some m.cls := findClass_of_methodNamed B.named
  have hlocks := B.notSynchronized
  have hK := hKK.1
  have hin2 : ∀ w ∈ wsX20, w ∈ wsX2_become := by decide +kernel
  subst hsz
  have hD := hD0.self (sz := s.heap.size)
  obtain ⟨A, hAe⟩ : ∃ A, A = va_A (wX cI cS a na nc N (mkL l_s l_t l_i l_kp l_iz l_z l_tp l_o0 l_o1 l_o2 l_o3 l_n0 l_n1 l_n2 l_n3) u0) s.heap.size := ⟨_, rfl⟩
  rw [← hAe] at hD
  have hA : ∀ q : Nat, s.heap.size ≤ q → A q := fun q h => by rw [hAe]; exact Or.inr h
  have hS : va_S A s.heap s.heap [] := va_S.rf
  have hl := lv_entry ([.ref (a 1), .ref (a 5)]) (n := 2) (Nat.le_of_ble_eq_true rfl)
  rw [lg_entry_eq]
  generalize (lg_sl ([.ref (a 1), .ref (a 5)]) ++ List.replicate (2 - (lg_sl ([.ref (a 1), .ref (a 5)])).length) Slot.unset).toArray = ls at hl ⊢
  have hl : lv_has ls 2 [(0, .ref (a 1)), (1, .ref (a 5))] := hl
  obtain ⟨u, hu9⟩ : ∃ u : SU, u = u0 := ⟨_, rfl⟩
  rw [← hu9] at hP hD
  have p_s : Rg 0 12 l_s := hL.1
  have p_t : Rg 0 12 l_t := hL.2.1
  have p_i : Rg 0 12 l_i := hL.2.2.1
  have p_tp : Rg 0 120 l_tp := hL.2.2.2.1
  have p_n0 : Rg 0 40 l_n0 := hL.2.2.2.2.1
  have p_n1 : Rg 0 40 l_n1 := hL.2.2.2.2.2.1
  have p_n2 : Rg 0 40 l_n2 := hL.2.2.2.2.2.2.1
  have p_n3 : Rg 0 40 l_n3 := hL.2.2.2.2.2.2.2
  refine lv_aload_n hx hb dX2_become_0 rfl (lv_at hl 1 rfl) ?_
  refine va_get (D := D) (ci := 2) (v := .ref (a 6)) (C := RX2) (T := TX2) (N := 3) hx hb hts hin2 hown hK hP 5 rfl rfl 0 (by decide) (hts (.fieldLink RX2 9 "MissedPoints$Net" "links" "[I") (by decide +kernel)) (fun _ h9 => h9) rfl dX2_become_1 ?_
  refine lv_iconst (v := 0) hx hb dX2_become_4 (by decide) ?_
  refine lv_aload_n hx hb dX2_become_5 rfl (lv_at hl 0 rfl) ?_
  refine va_get (D := D) (ci := 2) (v := .ref (a 2)) (C := RX2) (T := TX2) (N := 3) hx hb hts hin2 hown hK hP 1 rfl rfl 0 (by decide) (hts (.fieldLink RX2 9 "MissedPoints$Net" "links" "[I") (by decide +kernel)) (fun _ h9 => h9) rfl dX2_become_6 ?_
  refine lv_iconst (v := 0) hx hb dX2_become_9 (by decide) ?_
  refine lv_bipush (v := 12) hx hb dX2_become_10 (by decide) ?_
  refine va_copyi hx hb (by rw [hml]; exact hl.1.symm) hown (hts (.methodLink RX2 47 arraycopyName) (by decide +kernel)) (hts (.native arraycopyName) (by decide +kernel)) (hts (.static arraycopyName) (by decide +kernel)) (hts (.initialized "java/lang/System") (by decide +kernel)) hK hP hD hS 6 2 0 0 rfl rfl rfl rfl rfl (by decide) (by decide) (by decide) (by decide) (by decide) (fun _ _ => rfl) (Nat.le_of_ble_eq_true rfl) (Nat.le_of_ble_eq_true rfl) dX2_become_12 (fun H locs hP hD hS => ?_)
  rw [sx_2] at hP hD
  generalize sU u 2 _ = u at hP hD
  refine lv_aload_n hx hb dX2_become_15 rfl (lv_at hl 0 rfl) ?_
  refine lv_aload_n hx hb dX2_become_16 rfl (lv_at hl 1 rfl) ?_
  refine va_get (D := D) (ci := 2) (v := .int l_i) (C := RX2) (T := TX2) (N := 3) hx hb hts hin2 hown hK hP 5 rfl rfl 1 (by decide) (hts (.fieldLink RX2 15 "MissedPoints$Net" "size" "I") (by decide +kernel)) (fun _ h9 => h9) rfl dX2_become_17 ?_
  refine va_put (D := D) (ci := 2) (v := .int l_i) (ty := .int) (C := RX2) (T := TX2) (N := 3) hx hb hts hin2 tyX2 tyX2_ok nmX2 hown hK hP hD hS 1 rfl rfl 1 (by decide) (hts (.fieldLink RX2 15 "MissedPoints$Net" "size" "I") (by decide +kernel)) (fun _ h9 => h9) rfl (by decide +kernel) rfl rfl (Nat.le_of_ble_eq_true rfl) dX2_become_20 (fun H locs hP hD hS => ?_)
  have hP : va_P D cls (wX cI cS a na nc N (mkL l_i l_t l_i l_kp l_iz l_z l_tp l_o0 l_o1 l_o2 l_o3 l_n0 l_n1 l_n2 l_n3) u) H := hP
  have hD : va_D A (wX cI cS a na nc N (mkL l_i l_t l_i l_kp l_iz l_z l_tp l_o0 l_o1 l_o2 l_o3 l_n0 l_n1 l_n2 l_n3) u) := hD
  refine lv_aload_n hx hb dX2_become_23 rfl (lv_at hl 0 rfl) ?_
  refine lv_dup hx hb dX2_become_24 rfl ?_
  refine va_get (D := D) (ci := 2) (v := .int (u 1 2)) (C := RX2) (T := TX2) (N := 3) hx hb hts hin2 hown hK hP 1 rfl rfl 2 (by decide) (hts (.fieldLink RX2 33 "MissedPoints$Net" "changes" "I") (by decide +kernel)) (fun _ h9 => h9) rfl dX2_become_25 ?_
  refine wk_any (fun r49346 => ?_)
  refine lv_iconst (v := 1) hx hb dX2_become_28 (by decide) ?_
  refine lv_iadd hx hb dX2_become_29 ?_
  refine wk_topP (P := fun r => r = r49346 + (1 : Int32)) rfl (fun r49347 qr49347 => ?_)
  refine va_put (D := D) (ci := 2) (v := .int r49347) (ty := .int) (C := RX2) (T := TX2) (N := 3) hx hb hts hin2 tyX2 tyX2_ok nmX2 hown hK hP hD hS 1 rfl rfl 2 (by decide) (hts (.fieldLink RX2 33 "MissedPoints$Net" "changes" "I") (by decide +kernel)) (fun _ h9 => h9) rfl (by decide +kernel) rfl rfl (Nat.le_of_ble_eq_true rfl) dX2_become_30 (fun H locs hP hD hS => ?_)
  rw [sxf_1_2] at hP hD
  generalize sU u 1 _ = u at hP hD
  subst hAe
  exact W.vret hx hb hr (fun t ht hW => ⟨⟨(l_i, u), rfl, ⟨p_i, (show l_i.toInt = l_i.toInt from by have y90 : Rg 0 12 l_i := p_i; have y91 : Rg 0 12 l_t := p_t; have y92 : Rg 0 12 l_i := p_i; have y93 : Rg 0 120 l_tp := p_tp; have y94 : Rg 0 40 l_n0 := p_n0; have y95 : Rg 0 40 l_n1 := p_n1; have y96 : Rg 0 40 l_n2 := p_n2; have y97 : Rg 0 40 l_n3 := p_n3; have y9c8 : (0 : Int32).toInt = 0 := (by decide); have y9c9 : (1 : Int32).toInt = 1 := (by decide); omega)⟩, by rw [ht]; exact hP, hD⟩, hS.F ht⟩) hS.2.2 dX2_become_33
theorem dX8_append_0 : decode cX8_append 0 = .ok (.aload_n 0, 1) := by decide +kernel
theorem dX8_append_1 : decode cX8_append 1 = .ok (.getfield 15, 3) := by decide +kernel
theorem dX8_append_10 : decode cX8_append 10 = .ok (.getfield 9, 3) := by decide +kernel
theorem dX8_append_13 : decode cX8_append 13 = .ok (.aload_n 0, 1) := by decide +kernel
theorem dX8_append_14 : decode cX8_append 14 = .ok (.getfield 15, 3) := by decide +kernel
theorem dX8_append_17 : decode cX8_append 17 = .ok (.iload_n 1, 1) := by decide +kernel
theorem dX8_append_18 : decode cX8_append 18 = .ok (.iastore, 1) := by decide +kernel
theorem dX8_append_19 : decode cX8_append 19 = .ok (.aload_n 0, 1) := by decide +kernel
theorem dX8_append_20 : decode cX8_append 20 = .ok (.dup, 1) := by decide +kernel
theorem dX8_append_21 : decode cX8_append 21 = .ok (.getfield 15, 3) := by decide +kernel
theorem dX8_append_24 : decode cX8_append 24 = .ok (.iconst 1, 1) := by decide +kernel
theorem dX8_append_25 : decode cX8_append 25 = .ok (.iadd, 1) := by decide +kernel
theorem dX8_append_26 : decode cX8_append 26 = .ok (.putfield 15, 3) := by decide +kernel
theorem dX8_append_29 : decode cX8_append 29 = .ok (.return_, 1) := by decide +kernel
theorem dX8_append_4 : decode cX8_append 4 = .ok (.bipush 120, 2) := by decide +kernel
theorem dX8_append_6 : decode cX8_append 6 = .ok (.if_icmp .ge 23, 3) := by decide +kernel
theorem dX8_append_9 : decode cX8_append 9 = .ok (.aload_n 0, 1) := by decide +kernel
set_option maxHeartbeats 4000000 in
set_option maxRecDepth 100000 in
theorem k_X8_append (l : Launch) (D : va_G) (cI cS : ClassId) (sz : Nat) (a : Nat → Nat) (na nc N : Nat) (l_s l_t l_i l_kp l_iz l_z l_tp l_o0 l_o1 l_o2 l_o3 l_n0 l_n1 l_n2 l_n3 : Int32) (u0 : SU) (hL : TyX (mkL l_s l_t l_i l_kp l_iz l_z l_tp l_o0 l_o1 l_o2 l_o3 l_n0 l_n1 l_n2 l_n3)) (hN : N = 0 ∨ N = 24576) (x0 : Int32) : Met l yX8_append wsX8_append ({ frames := 0, cells := 0, slots := 0, locals := 0 }) (PQ D cI cS (wX cI cS a na nc N (mkL l_s l_t l_i l_kp l_iz l_z l_tp l_o0 l_o1 l_o2 l_o3 l_n0 l_n1 l_n2 l_n3) u0) sz [.ref (a 21), .int x0]) (QE (S := Int32 × SU) D (wX cI cS a na nc N (mkL l_s l_t l_i l_kp l_iz l_z l_tp l_o0 l_o1 l_o2 l_o3 l_n0 l_n1 l_n2 l_n3) u0) (fun q => wX cI cS a na nc N (mkL l_s l_t l_i l_kp l_iz l_z q.1 l_o0 l_o1 l_o2 l_o3 l_n0 l_n1 l_n2 l_n3) q.2) sz (fun q => Rg 1 120 q.1 ∧ ((l_tp.toInt < 120 → q.1.toInt = l_tp.toInt + 1)))) 0 0 (va_A (wX cI cS a na nc N (mkL l_s l_t l_i l_kp l_iz l_z l_tp l_o0 l_o1 l_o2 l_o3 l_n0 l_n1 l_n2 l_n3) u0) sz) := by
  refine Met.ofW (cc := cX8_append) (maxL := 2) (ret := none) (by decide) rfl ?_
  intro p e s m args below meth c s₁ B hml hv
  obtain ⟨rfl, hsz, hP, hKK, hD0⟩ := hv
  have hx := B.exec
  have hb := B.bytes
  have hr := B.returns
  have hts := atoms_spec (ws := wsX8_append) B.pre
  have hown : s.vm.findClass RX8 = some m.cls := findClass_of_methodNamed B.named
  have hlocks := B.notSynchronized
  have hK := hKK.1
  have hin8 : ∀ w ∈ wsX80, w ∈ wsX8_append := by decide +kernel
  subst hsz
  have hD := hD0.self (sz := s.heap.size)
  obtain ⟨A, hAe⟩ : ∃ A, A = va_A (wX cI cS a na nc N (mkL l_s l_t l_i l_kp l_iz l_z l_tp l_o0 l_o1 l_o2 l_o3 l_n0 l_n1 l_n2 l_n3) u0) s.heap.size := ⟨_, rfl⟩
  rw [← hAe] at hD
  have hA : ∀ q : Nat, s.heap.size ≤ q → A q := fun q h => by rw [hAe]; exact Or.inr h
  have hS : va_S A s.heap s.heap [] := va_S.rf
  have hl := lv_entry ([.ref (a 21), .int x0]) (n := 2) (Nat.le_of_ble_eq_true rfl)
  rw [lg_entry_eq]
  generalize (lg_sl ([.ref (a 21), .int x0]) ++ List.replicate (2 - (lg_sl ([.ref (a 21), .int x0])).length) Slot.unset).toArray = ls at hl ⊢
  have hl : lv_has ls 2 [(0, .ref (a 21)), (1, .int x0)] := hl
  obtain ⟨u, hu9⟩ : ∃ u : SU, u = u0 := ⟨_, rfl⟩
  rw [← hu9] at hP hD
  have p_s : Rg 0 12 l_s := hL.1
  have p_t : Rg 0 12 l_t := hL.2.1
  have p_i : Rg 0 12 l_i := hL.2.2.1
  have p_tp : Rg 0 120 l_tp := hL.2.2.2.1
  have p_n0 : Rg 0 40 l_n0 := hL.2.2.2.2.1
  have p_n1 : Rg 0 40 l_n1 := hL.2.2.2.2.2.1
  have p_n2 : Rg 0 40 l_n2 := hL.2.2.2.2.2.2.1
  have p_n3 : Rg 0 40 l_n3 := hL.2.2.2.2.2.2.2
  refine lv_aload_n hx hb dX8_append_0 rfl (lv_at hl 0 rfl) ?_
  refine va_get (D := D) (ci := 8) (v := .int l_tp) (C := RX8) (T := TX8) (N := 2) hx hb hts hin8 hown hK hP 21 rfl rfl 1 (by decide) (hts (.fieldLink RX8 15 "MissedPoints$Tape" "size" "I") (by decide +kernel)) (fun _ h9 => h9) rfl dX8_append_1 ?_
  refine lv_bipush (v := 120) hx hb dX8_append_4 (by decide) ?_
  refine lv_icmp_ge (tgt := 29) hx hb dX8_append_6 (by decide) (fun c49352 => ?_) (fun c49352 => ?_)
  · have g49353 : Rg 120 120 l_tp := rg_ler (by decide : Rg 120 120 (120 : Int32)) p_tp c49352 (by decide)
    subst hAe
    exact W.vret hx hb hr (fun t ht hW => ⟨⟨(l_tp, u), rfl, ⟨(show Rg 1 120 l_tp from rg_w g49353 (by decide) (by decide)), (show (l_tp.toInt < 120 → l_tp.toInt = l_tp.toInt + 1) from by have y90 : (120 : Int32).toInt ≤ l_tp.toInt := (lz_le _ _).mp c49352; have y91 : Rg 120 120 l_tp := g49353; have y92 : Rg 0 12 l_s := p_s; have y93 : Rg 0 12 l_t := p_t; have y94 : Rg 0 12 l_i := p_i; have y95 : Rg 120 120 l_tp := g49353; have y96 : Rg 0 40 l_n0 := p_n0; have y97 : Rg 0 40 l_n1 := p_n1; have y98 : Rg 0 40 l_n2 := p_n2; have y99 : Rg 0 40 l_n3 := p_n3; have y9c10 : (0 : Int32).toInt = 0 := (by decide); have y9c11 : (1 : Int32).toInt = 1 := (by decide); have y9c12 : (120 : Int32).toInt = 120 := (by decide); omega)⟩, by rw [ht]; exact hP, hD⟩, hS.F ht⟩) hS.2.2 dX8_append_29
  · have g49354 : Rg 0 119 l_tp := rg_ltl p_tp (by decide : Rg 120 120 (120 : Int32)) (rg_nle c49352) (by decide)
    refine lv_aload_n hx hb dX8_append_9 rfl (lv_at hl 0 rfl) ?_
    refine va_get (D := D) (ci := 8) (v := .ref (a 22)) (C := RX8) (T := TX8) (N := 2) hx hb hts hin8 hown hK hP 21 rfl rfl 0 (by decide) (hts (.fieldLink RX8 9 "MissedPoints$Tape" "bytes" "[I") (by decide +kernel)) (fun _ h9 => h9) rfl dX8_append_10 ?_
    refine lv_aload_n hx hb dX8_append_13 rfl (lv_at hl 0 rfl) ?_
    refine va_get (D := D) (ci := 8) (v := .int l_tp) (C := RX8) (T := TX8) (N := 2) hx hb hts hin8 hown hK hP 21 rfl rfl 1 (by decide) (hts (.fieldLink RX8 15 "MissedPoints$Tape" "size" "I") (by decide +kernel)) (fun _ h9 => h9) rfl dX8_append_14 ?_
    refine lv_iload_n hx hb dX8_append_17 rfl (lv_at hl 1 rfl) ?_
    refine ks_ast hx hb hK hP hD hS rfl (k := 22) rfl sx_22 (rg_in g49354 (by decide) (by decide)) dX8_append_18 (fun u H locs hP hD hS => ?_)
    refine lv_aload_n hx hb dX8_append_19 rfl (lv_at hl 0 rfl) ?_
    refine lv_dup hx hb dX8_append_20 rfl ?_
    refine va_get (D := D) (ci := 8) (v := .int l_tp) (C := RX8) (T := TX8) (N := 2) hx hb hts hin8 hown hK hP 21 rfl rfl 1 (by decide) (hts (.fieldLink RX8 15 "MissedPoints$Tape" "size" "I") (by decide +kernel)) (fun _ h9 => h9) rfl dX8_append_21 ?_
    refine lv_iconst (v := 1) hx hb dX8_append_24 (by decide) ?_
    refine wk_iadd (e1 := 1) (f := 120) hx hb dX8_append_25 g49354 (by decide : Rg 1 1 (1 : Int32)) (by decide) (fun r49355 hr49355 er49355 qr49355 => ?_)
    refine va_put (D := D) (ci := 8) (v := .int r49355) (ty := .int) (C := RX8) (T := TX8) (N := 2) hx hb hts hin8 tyX8 tyX8_ok nmX8 hown hK hP hD hS 21 rfl rfl 1 (by decide) (hts (.fieldLink RX8 15 "MissedPoints$Tape" "size" "I") (by decide +kernel)) (fun _ h9 => h9) rfl (by decide +kernel) rfl rfl (Nat.le_of_ble_eq_true rfl) dX8_append_26 (fun H locs hP hD hS => ?_)
    have hP : va_P D cls (wX cI cS a na nc N (mkL l_s l_t l_i l_kp l_iz l_z r49355 l_o0 l_o1 l_o2 l_o3 l_n0 l_n1 l_n2 l_n3) u) H := hP
    have hD : va_D A (wX cI cS a na nc N (mkL l_s l_t l_i l_kp l_iz l_z r49355 l_o0 l_o1 l_o2 l_o3 l_n0 l_n1 l_n2 l_n3) u) := hD
    subst hAe
    exact W.vret hx hb hr (fun t ht hW => ⟨⟨(r49355, u), rfl, ⟨hr49355, (show (l_tp.toInt < 120 → r49355.toInt = l_tp.toInt + 1) from by have y90 : l_tp.toInt < (120 : Int32).toInt := (lz_lt _ _).mp (rg_nle c49352); have y91 : Rg 0 119 l_tp := g49354; have y92 : Rg 0 12 l_s := p_s; have y93 : Rg 0 12 l_t := p_t; have y94 : Rg 0 12 l_i := p_i; have y95 : Rg 1 120 r49355 := hr49355; have y96 : Rg 0 40 l_n0 := p_n0; have y97 : Rg 0 40 l_n1 := p_n1; have y98 : Rg 0 40 l_n2 := p_n2; have y99 : Rg 0 40 l_n3 := p_n3; have y9c10 : (0 : Int32).toInt = 0 := (by decide); have y9c11 : (1 : Int32).toInt = 1 := (by decide); have y9c12 : (120 : Int32).toInt = 120 := (by decide); omega)⟩, by rw [ht]; exact hP, hD⟩, hS.F ht⟩) hS.2.2 dX8_append_29
theorem dX8_clear_0 : decode cX8_clear 0 = .ok (.aload_n 0, 1) := by decide +kernel
theorem dX8_clear_1 : decode cX8_clear 1 = .ok (.getfield 15, 3) := by decide +kernel
theorem dX8_clear_10 : decode cX8_clear 10 = .ok (.iload_n 1, 1) := by decide +kernel
theorem dX8_clear_11 : decode cX8_clear 11 = .ok (.ireturn, 1) := by decide +kernel
theorem dX8_clear_4 : decode cX8_clear 4 = .ok (.istore_n 1, 1) := by decide +kernel
theorem dX8_clear_5 : decode cX8_clear 5 = .ok (.aload_n 0, 1) := by decide +kernel
theorem dX8_clear_6 : decode cX8_clear 6 = .ok (.iconst 0, 1) := by decide +kernel
theorem dX8_clear_7 : decode cX8_clear 7 = .ok (.putfield 15, 3) := by decide +kernel
set_option maxHeartbeats 4000000 in
set_option maxRecDepth 100000 in
theorem k_X8_clear (l : Launch) (D : va_G) (cI cS : ClassId) (sz : Nat) (a : Nat → Nat) (na nc N : Nat) (l_s l_t l_i l_kp l_iz l_z l_tp l_o0 l_o1 l_o2 l_o3 l_n0 l_n1 l_n2 l_n3 : Int32) (u0 : SU) (hL : TyX (mkL l_s l_t l_i l_kp l_iz l_z l_tp l_o0 l_o1 l_o2 l_o3 l_n0 l_n1 l_n2 l_n3)) (hN : N = 0 ∨ N = 24576) : Met l yX8_clear wsX8_clear ({ frames := 0, cells := 0, slots := 0, locals := 0 }) (PQ D cI cS (wX cI cS a na nc N (mkL l_s l_t l_i l_kp l_iz l_z l_tp l_o0 l_o1 l_o2 l_o3 l_n0 l_n1 l_n2 l_n3) u0) sz [.ref (a 21)]) (QF (S := Int32 × SU) D (wX cI cS a na nc N (mkL l_s l_t l_i l_kp l_iz l_z l_tp l_o0 l_o1 l_o2 l_o3 l_n0 l_n1 l_n2 l_n3) u0) (fun q => wX cI cS a na nc N (mkL l_s l_t l_i l_kp l_iz l_z q.1 l_o0 l_o1 l_o2 l_o3 l_n0 l_n1 l_n2 l_n3) q.2) sz (fun r q => Rg 0 120 r ∧ Rg 0 0 q.1 ∧ (r.toInt = l_tp.toInt ∧ q.1.toInt = 0))) 0 0 (va_A (wX cI cS a na nc N (mkL l_s l_t l_i l_kp l_iz l_z l_tp l_o0 l_o1 l_o2 l_o3 l_n0 l_n1 l_n2 l_n3) u0) sz) := by
  refine Met.ofW (cc := cX8_clear) (maxL := 2) (ret := (some .int)) (by decide) rfl ?_
  intro p e s m args below meth c s₁ B hml hv
  obtain ⟨rfl, hsz, hP, hKK, hD0⟩ := hv
  have hx := B.exec
  have hb := B.bytes
  have hr := B.returns
  have hts := atoms_spec (ws := wsX8_clear) B.pre
  have hown : s.vm.findClass RX8 = some m.cls := findClass_of_methodNamed B.named
  have hlocks := B.notSynchronized
  have hK := hKK.1
  have hin8 : ∀ w ∈ wsX80, w ∈ wsX8_clear := by decide +kernel
  subst hsz
  have hD := hD0.self (sz := s.heap.size)
  obtain ⟨A, hAe⟩ : ∃ A, A = va_A (wX cI cS a na nc N (mkL l_s l_t l_i l_kp l_iz l_z l_tp l_o0 l_o1 l_o2 l_o3 l_n0 l_n1 l_n2 l_n3) u0) s.heap.size := ⟨_, rfl⟩
  rw [← hAe] at hD
  have hA : ∀ q : Nat, s.heap.size ≤ q → A q := fun q h => by rw [hAe]; exact Or.inr h
  have hS : va_S A s.heap s.heap [] := va_S.rf
  have hl := lv_entry ([.ref (a 21)]) (n := 2) (Nat.le_of_ble_eq_true rfl)
  rw [lg_entry_eq]
  generalize (lg_sl ([.ref (a 21)]) ++ List.replicate (2 - (lg_sl ([.ref (a 21)])).length) Slot.unset).toArray = ls at hl ⊢
  have hl : lv_has ls 2 [(0, .ref (a 21))] := hl
  obtain ⟨u, hu9⟩ : ∃ u : SU, u = u0 := ⟨_, rfl⟩
  rw [← hu9] at hP hD
  have p_s : Rg 0 12 l_s := hL.1
  have p_t : Rg 0 12 l_t := hL.2.1
  have p_i : Rg 0 12 l_i := hL.2.2.1
  have p_tp : Rg 0 120 l_tp := hL.2.2.2.1
  have p_n0 : Rg 0 40 l_n0 := hL.2.2.2.2.1
  have p_n1 : Rg 0 40 l_n1 := hL.2.2.2.2.2.1
  have p_n2 : Rg 0 40 l_n2 := hL.2.2.2.2.2.2.1
  have p_n3 : Rg 0 40 l_n3 := hL.2.2.2.2.2.2.2
  refine lv_aload_n hx hb dX8_clear_0 rfl (lv_at hl 0 rfl) ?_
  refine va_get (D := D) (ci := 8) (v := .int l_tp) (C := RX8) (T := TX8) (N := 2) hx hb hts hin8 hown hK hP 21 rfl rfl 1 (by decide) (hts (.fieldLink RX8 15 "MissedPoints$Tape" "size" "I") (by decide +kernel)) (fun _ h9 => h9) rfl dX8_clear_1 ?_
  refine lv_istore_n (lv' := [(1, .int l_tp), (0, .ref (a 21))]) hx hb dX8_clear_4 rfl hl (by decide) rfl (fun ls hl => ?_)
  refine lv_aload_n hx hb dX8_clear_5 rfl (lv_at hl 1 rfl) ?_
  refine lv_iconst (v := 0) hx hb dX8_clear_6 (by decide) ?_
  refine va_put (D := D) (ci := 8) (v := .int 0) (ty := .int) (C := RX8) (T := TX8) (N := 2) hx hb hts hin8 tyX8 tyX8_ok nmX8 hown hK hP hD hS 21 rfl rfl 1 (by decide) (hts (.fieldLink RX8 15 "MissedPoints$Tape" "size" "I") (by decide +kernel)) (fun _ h9 => h9) rfl (by decide +kernel) rfl rfl (Nat.le_of_ble_eq_true rfl) dX8_clear_7 (fun H locs hP hD hS => ?_)
  have hP : va_P D cls (wX cI cS a na nc N (mkL l_s l_t l_i l_kp l_iz l_z (0 : Int32) l_o0 l_o1 l_o2 l_o3 l_n0 l_n1 l_n2 l_n3) u) H := hP
  have hD : va_D A (wX cI cS a na nc N (mkL l_s l_t l_i l_kp l_iz l_z (0 : Int32) l_o0 l_o1 l_o2 l_o3 l_n0 l_n1 l_n2 l_n3) u) := hD
  refine lv_iload_n hx hb dX8_clear_10 rfl (lv_at hl 0 rfl) ?_
  subst hAe
  exact W.iret (v := l_tp) hx hb hr (fun t ht hW => ⟨⟨_, ((0 : Int32), u), rfl, ⟨p_tp, (by decide : Rg 0 0 (0 : Int32)), (show l_tp.toInt = l_tp.toInt ∧ (0 : Int32).toInt = 0 from by have y90 : Rg 0 120 l_tp := p_tp; have y91 : Rg 0 120 l_tp := p_tp; have y92 : Rg 0 12 l_s := p_s; have y93 : Rg 0 12 l_t := p_t; have y94 : Rg 0 12 l_i := p_i; have y95 : Rg 0 40 l_n0 := p_n0; have y96 : Rg 0 40 l_n1 := p_n1; have y97 : Rg 0 40 l_n2 := p_n2; have y98 : Rg 0 40 l_n3 := p_n3; have y99 : Rg 0 120 l_tp := p_tp; have y9c10 : (0 : Int32).toInt = 0 := (by decide); have y9c11 : (1 : Int32).toInt = 1 := (by decide); omega)⟩, by rw [ht]; exact hP, hD⟩, hS.F ht⟩) hS.2.2 dX8_clear_11
set_option maxHeartbeats 4000000 in
set_option maxRecDepth 100000 in
theorem k_X11_isSheet_z (l : Launch) (D : va_G) (cI cS : ClassId) (x0 : Int32) : Met l yX11_isSheet wsX11_isSheet ({ frames := 0, cells := 0, slots := 0, locals := 0 }) (PS D cI cS [] [.int x0]) (vp_Si (fun r => Rg 0 1 r ∧ (r ≠ 0 → Rg 0 3 x0) ∧ (r = 0 → (x0.toInt < 0 ∨ 3 < x0.toInt)))) 0 0 (fun _ => False) := by
  refine Met.ofW (cc := cX11_isSheet) (maxL := 1) (ret := (some .boolean)) (by decide) rfl ?_
  intro p e s m args below meth c s₁ B hml hv
  obtain ⟨rfl, hP, hKK⟩ := hv
  have hx := B.exec
  have hb := B.bytes
  have hr := B.returns
  have hts := atoms_spec (ws := wsX11_isSheet) B.pre
  have hown : s.vm.findClass RX11 = some m.cls := findClass_of_methodNamed B.named
  have hlocks := B.notSynchronized
  have hK := hKK.1
  have hl := lv_entry ([.int x0]) (n := 1) (Nat.le_of_ble_eq_true rfl)
  rw [lg_entry_eq]
  generalize (lg_sl ([.int x0]) ++ List.replicate (1 - (lg_sl ([.int x0])).length) Slot.unset).toArray = ls at hl ⊢
  have hl : lv_has ls 1 [(0, .int x0)] := hl
  refine lv_iload_n hx hb dX11_isSheet_0 rfl (lv_at hl 0 rfl) ?_
  refine lv_if_lt (tgt := 13) hx hb dX11_isSheet_1 (by decide) (fun c49362 => ?_) (fun c49362 => ?_)
  · have g49363 : Rg (-2147483648) (-1) x0 := rg_ltl (rg_any x0) (by decide : Rg 0 0 (0 : Int32)) c49362 (by decide)
    refine lv_iconst (v := 0) hx hb dX11_isSheet_13 (by decide) ?_
    exact W.zret (v := 0) hx hb hr (by decide) (fun t ht hW => ⟨_, rfl, ⟨(by decide : Rg 0 1 (0 : Int32)), fun h9 => absurd rfl h9, fun _ => (by have y90 : x0.toInt < (0 : Int32).toInt := (lz_lt _ _).mp c49362; have y91 : Rg (-2147483648) (-1) x0 := g49363; have y92 : Rg (-2147483648) (-1) x0 := g49363; have y9c3 : (0 : Int32).toInt = 0 := (by decide); have y9c4 : (1 : Int32).toInt = 1 := (by decide); omega)⟩, ht⟩) (fun q hq => absurd hq List.not_mem_nil) dX11_isSheet_14
  · have g49364 : Rg 0 2147483647 x0 := rg_ler (by decide : Rg 0 0 (0 : Int32)) (rg_any x0) (rg_nlt c49362) (by decide)
    refine lv_iload_n hx hb dX11_isSheet_4 rfl (lv_at hl 0 rfl) ?_
    refine lv_iconst (v := 4) hx hb dX11_isSheet_5 (by decide) ?_
    refine lv_icmp_ge (tgt := 13) hx hb dX11_isSheet_6 (by decide) (fun c49365 => ?_) (fun c49365 => ?_)
    · have g49366 : Rg 4 2147483647 x0 := rg_ler (by decide : Rg 4 4 (4 : Int32)) g49364 c49365 (by decide)
      refine lv_iconst (v := 0) hx hb dX11_isSheet_13 (by decide) ?_
      exact W.zret (v := 0) hx hb hr (by decide) (fun t ht hW => ⟨_, rfl, ⟨(by decide : Rg 0 1 (0 : Int32)), fun h9 => absurd rfl h9, fun _ => (by have y90 : (0 : Int32).toInt ≤ x0.toInt := (lz_le _ _).mp (rg_nlt c49362); have y91 : (4 : Int32).toInt ≤ x0.toInt := (lz_le _ _).mp c49365; have y92 : Rg 4 2147483647 x0 := g49366; have y93 : Rg 4 2147483647 x0 := g49366; have y9c4 : (0 : Int32).toInt = 0 := (by decide); have y9c5 : (1 : Int32).toInt = 1 := (by decide); have y9c6 : (4 : Int32).toInt = 4 := (by decide); omega)⟩, ht⟩) (fun q hq => absurd hq List.not_mem_nil) dX11_isSheet_14
    · have g49367 : Rg 0 3 x0 := rg_ltl g49364 (by decide : Rg 4 4 (4 : Int32)) (rg_nle c49365) (by decide)
      refine lv_iconst (v := 1) hx hb dX11_isSheet_9 (by decide) ?_
      refine lv_goto (tgt := 14) hx hb dX11_isSheet_10 (by decide) ?_
      exact W.zret (v := 1) hx hb hr (by decide) (fun t ht hW => ⟨_, rfl, ⟨(by decide : Rg 0 1 (1 : Int32)), fun _ => g49367, fun h9 => absurd h9 (by decide)⟩, ht⟩) (fun q hq => absurd hq List.not_mem_nil) dX11_isSheet_14
set_option maxHeartbeats 4000000 in
set_option maxRecDepth 100000 in
theorem k_X11_isSort_z (l : Launch) (D : va_G) (cI cS : ClassId) (x0 : Int32) : Met l yX11_isSort wsX11_isSort ({ frames := 0, cells := 0, slots := 0, locals := 0 }) (PS D cI cS [] [.int x0]) (vp_Si (fun r => Rg 0 1 r ∧ (r ≠ 0 → Rg 0 1 x0) ∧ (r = 0 → (x0.toInt < 0 ∨ 1 < x0.toInt)))) 0 0 (fun _ => False) := by
  refine Met.ofW (cc := cX11_isSort) (maxL := 1) (ret := (some .boolean)) (by decide) rfl ?_
  intro p e s m args below meth c s₁ B hml hv
  obtain ⟨rfl, hP, hKK⟩ := hv
  have hx := B.exec
  have hb := B.bytes
  have hr := B.returns
  have hts := atoms_spec (ws := wsX11_isSort) B.pre
  have hown : s.vm.findClass RX11 = some m.cls := findClass_of_methodNamed B.named
  have hlocks := B.notSynchronized
  have hK := hKK.1
  have hl := lv_entry ([.int x0]) (n := 1) (Nat.le_of_ble_eq_true rfl)
  rw [lg_entry_eq]
  generalize (lg_sl ([.int x0]) ++ List.replicate (1 - (lg_sl ([.int x0])).length) Slot.unset).toArray = ls at hl ⊢
  have hl : lv_has ls 1 [(0, .int x0)] := hl
  refine lv_iload_n hx hb dX11_isSort_0 rfl (lv_at hl 0 rfl) ?_
  refine lv_if_eq (tgt := 9) hx hb dX11_isSort_1 (by decide) (fun c49372 => ?_) (fun c49372 => ?_)
  · have g49373 : Rg 0 0 x0 := wk_eql (rg_any x0) (by decide : Rg 0 0 (0 : Int32)) c49372 (by decide)
    refine lv_iconst (v := 1) hx hb dX11_isSort_9 (by decide) ?_
    refine lv_goto (tgt := 14) hx hb dX11_isSort_10 (by decide) ?_
    exact W.zret (v := 1) hx hb hr (by decide) (fun t ht hW => ⟨_, rfl, ⟨(by decide : Rg 0 1 (1 : Int32)), fun _ => (show Rg 0 1 x0 from rg_w g49373 (by decide) (by decide)), fun h9 => absurd h9 (by decide)⟩, ht⟩) (fun q hq => absurd hq List.not_mem_nil) dX11_isSort_14
  · refine lv_iload_n hx hb dX11_isSort_4 rfl (lv_at hl 0 rfl) ?_
    refine lv_iconst (v := 1) hx hb dX11_isSort_5 (by decide) ?_
    refine lv_icmp_ne (tgt := 13) hx hb dX11_isSort_6 (by decide) (fun c49374 => ?_) (fun c49374 => ?_)
    · refine lv_iconst (v := 0) hx hb dX11_isSort_13 (by decide) ?_
      exact W.zret (v := 0) hx hb hr (by decide) (fun t ht hW => ⟨_, rfl, ⟨(by decide : Rg 0 1 (0 : Int32)), fun h9 => absurd rfl h9, fun _ => (by have y90 : ¬ x0.toInt = (0 : Int32).toInt := fun z => c49372 (Int32.toInt_inj.mp z); have y91 : ¬ x0.toInt = (1 : Int32).toInt := fun z => c49374 (Int32.toInt_inj.mp z); have y9c2 : (0 : Int32).toInt = 0 := (by decide); have y9c3 : (1 : Int32).toInt = 1 := (by decide); omega)⟩, ht⟩) (fun q hq => absurd hq List.not_mem_nil) dX11_isSort_14
    · have g49375 : Rg 1 1 x0 := wk_eql (rg_any x0) (by decide : Rg 1 1 (1 : Int32)) c49374 (by decide)
      refine lv_iconst (v := 1) hx hb dX11_isSort_9 (by decide) ?_
      refine lv_goto (tgt := 14) hx hb dX11_isSort_10 (by decide) ?_
      exact W.zret (v := 1) hx hb hr (by decide) (fun t ht hW => ⟨_, rfl, ⟨(by decide : Rg 0 1 (1 : Int32)), fun _ => (show Rg 0 1 x0 from rg_w g49375 (by decide) (by decide)), fun h9 => absurd h9 (by decide)⟩, ht⟩) (fun q hq => absurd hq List.not_mem_nil) dX11_isSort_14
set_option maxHeartbeats 4000000 in
set_option maxRecDepth 100000 in
theorem k_X11_canDeal_z (l : Launch) (D : va_G) (cI cS : ClassId) (x0 x1 : Int32) : Met l yX11_canDeal wsX11_canDeal ({ frames := 0, cells := 0, slots := 0, locals := 0 }) (PS D cI cS [] [.int x0, .int x1]) (vp_Si (fun r => Rg 0 1 r ∧ (r ≠ 0 → Rg 0 12 x0 ∧ Rg 0 10 x1) ∧ (r = 0 → (x0.toInt < 0 ∨ 12 < x0.toInt ∨ x1.toInt < 0 ∨ 10 < x1.toInt)))) 0 0 (fun _ => False) := by
  refine Met.ofW (cc := cX11_canDeal) (maxL := 2) (ret := (some .boolean)) (by decide) rfl ?_
  intro p e s m args below meth c s₁ B hml hv
  obtain ⟨rfl, hP, hKK⟩ := hv
  have hx := B.exec
  have hb := B.bytes
  have hr := B.returns
  have hts := atoms_spec (ws := wsX11_canDeal) B.pre
  have hown : s.vm.findClass RX11 = some m.cls := findClass_of_methodNamed B.named
  have hlocks := B.notSynchronized
  have hK := hKK.1
  have hl := lv_entry ([.int x0, .int x1]) (n := 2) (Nat.le_of_ble_eq_true rfl)
  rw [lg_entry_eq]
  generalize (lg_sl ([.int x0, .int x1]) ++ List.replicate (2 - (lg_sl ([.int x0, .int x1])).length) Slot.unset).toArray = ls at hl ⊢
  have hl : lv_has ls 2 [(0, .int x0), (1, .int x1)] := hl
  refine lv_iload_n hx hb dX11_canDeal_0 rfl (lv_at hl 0 rfl) ?_
  refine lv_if_lt (tgt := 24) hx hb dX11_canDeal_1 (by decide) (fun c49388 => ?_) (fun c49388 => ?_)
  · have g49389 : Rg (-2147483648) (-1) x0 := rg_ltl (rg_any x0) (by decide : Rg 0 0 (0 : Int32)) c49388 (by decide)
    refine lv_iconst (v := 0) hx hb dX11_canDeal_24 (by decide) ?_
    exact W.zret (v := 0) hx hb hr (by decide) (fun t ht hW => ⟨_, rfl, ⟨(by decide : Rg 0 1 (0 : Int32)), fun h9 => absurd rfl h9, fun _ => (by have y90 : x0.toInt < (0 : Int32).toInt := (lz_lt _ _).mp c49388; have y91 : Rg (-2147483648) (-1) x0 := g49389; have y92 : Rg (-2147483648) (-1) x0 := g49389; have y9c3 : (0 : Int32).toInt = 0 := (by decide); have y9c4 : (1 : Int32).toInt = 1 := (by decide); omega)⟩, ht⟩) (fun q hq => absurd hq List.not_mem_nil) dX11_canDeal_25
  · have g49390 : Rg 0 2147483647 x0 := rg_ler (by decide : Rg 0 0 (0 : Int32)) (rg_any x0) (rg_nlt c49388) (by decide)
    refine lv_iload_n hx hb dX11_canDeal_4 rfl (lv_at hl 0 rfl) ?_
    refine lv_bipush (v := 12) hx hb dX11_canDeal_5 (by decide) ?_
    refine lv_icmp_gt (tgt := 24) hx hb dX11_canDeal_7 (by decide) (fun c49391 => ?_) (fun c49391 => ?_)
    · have g49392 : Rg 13 2147483647 x0 := rg_ltr (by decide : Rg 12 12 (12 : Int32)) g49390 c49391 (by decide)
      refine lv_iconst (v := 0) hx hb dX11_canDeal_24 (by decide) ?_
      exact W.zret (v := 0) hx hb hr (by decide) (fun t ht hW => ⟨_, rfl, ⟨(by decide : Rg 0 1 (0 : Int32)), fun h9 => absurd rfl h9, fun _ => (by have y90 : (0 : Int32).toInt ≤ x0.toInt := (lz_le _ _).mp (rg_nlt c49388); have y91 : (12 : Int32).toInt < x0.toInt := (lz_lt _ _).mp c49391; have y92 : Rg 13 2147483647 x0 := g49392; have y93 : Rg 13 2147483647 x0 := g49392; have y9c4 : (0 : Int32).toInt = 0 := (by decide); have y9c5 : (1 : Int32).toInt = 1 := (by decide); have y9c6 : (12 : Int32).toInt = 12 := (by decide); omega)⟩, ht⟩) (fun q hq => absurd hq List.not_mem_nil) dX11_canDeal_25
    · have g49393 : Rg 0 12 x0 := rg_lel g49390 (by decide : Rg 12 12 (12 : Int32)) (rg_nlt c49391) (by decide)
      refine lv_iload_n hx hb dX11_canDeal_10 rfl (lv_at hl 1 rfl) ?_
      refine lv_if_lt (tgt := 24) hx hb dX11_canDeal_11 (by decide) (fun c49394 => ?_) (fun c49394 => ?_)
      · have g49395 : Rg (-2147483648) (-1) x1 := rg_ltl (rg_any x1) (by decide : Rg 0 0 (0 : Int32)) c49394 (by decide)
        refine lv_iconst (v := 0) hx hb dX11_canDeal_24 (by decide) ?_
        exact W.zret (v := 0) hx hb hr (by decide) (fun t ht hW => ⟨_, rfl, ⟨(by decide : Rg 0 1 (0 : Int32)), fun h9 => absurd rfl h9, fun _ => (by have y90 : (0 : Int32).toInt ≤ x0.toInt := (lz_le _ _).mp (rg_nlt c49388); have y91 : x0.toInt ≤ (12 : Int32).toInt := (lz_le _ _).mp (rg_nlt c49391); have y92 : x1.toInt < (0 : Int32).toInt := (lz_lt _ _).mp c49394; have y93 : Rg 0 12 x0 := g49393; have y94 : Rg (-2147483648) (-1) x1 := g49395; have y95 : Rg 0 12 x0 := g49393; have y96 : Rg (-2147483648) (-1) x1 := g49395; have y9c7 : (0 : Int32).toInt = 0 := (by decide); have y9c8 : (1 : Int32).toInt = 1 := (by decide); have y9c9 : (12 : Int32).toInt = 12 := (by decide); omega)⟩, ht⟩) (fun q hq => absurd hq List.not_mem_nil) dX11_canDeal_25
      · have g49396 : Rg 0 2147483647 x1 := rg_ler (by decide : Rg 0 0 (0 : Int32)) (rg_any x1) (rg_nlt c49394) (by decide)
        refine lv_iload_n hx hb dX11_canDeal_14 rfl (lv_at hl 1 rfl) ?_
        refine lv_bipush (v := 10) hx hb dX11_canDeal_15 (by decide) ?_
        refine lv_icmp_gt (tgt := 24) hx hb dX11_canDeal_17 (by decide) (fun c49397 => ?_) (fun c49397 => ?_)
        · have g49398 : Rg 11 2147483647 x1 := rg_ltr (by decide : Rg 10 10 (10 : Int32)) g49396 c49397 (by decide)
          refine lv_iconst (v := 0) hx hb dX11_canDeal_24 (by decide) ?_
          exact W.zret (v := 0) hx hb hr (by decide) (fun t ht hW => ⟨_, rfl, ⟨(by decide : Rg 0 1 (0 : Int32)), fun h9 => absurd rfl h9, fun _ => (by have y90 : (0 : Int32).toInt ≤ x0.toInt := (lz_le _ _).mp (rg_nlt c49388); have y91 : x0.toInt ≤ (12 : Int32).toInt := (lz_le _ _).mp (rg_nlt c49391); have y92 : (0 : Int32).toInt ≤ x1.toInt := (lz_le _ _).mp (rg_nlt c49394); have y93 : (10 : Int32).toInt < x1.toInt := (lz_lt _ _).mp c49397; have y94 : Rg 0 12 x0 := g49393; have y95 : Rg 11 2147483647 x1 := g49398; have y96 : Rg 0 12 x0 := g49393; have y97 : Rg 11 2147483647 x1 := g49398; have y9c8 : (0 : Int32).toInt = 0 := (by decide); have y9c9 : (1 : Int32).toInt = 1 := (by decide); have y9c10 : (10 : Int32).toInt = 10 := (by decide); have y9c11 : (12 : Int32).toInt = 12 := (by decide); omega)⟩, ht⟩) (fun q hq => absurd hq List.not_mem_nil) dX11_canDeal_25
        · have g49399 : Rg 0 10 x1 := rg_lel g49396 (by decide : Rg 10 10 (10 : Int32)) (rg_nlt c49397) (by decide)
          refine lv_iconst (v := 1) hx hb dX11_canDeal_20 (by decide) ?_
          refine lv_goto (tgt := 25) hx hb dX11_canDeal_21 (by decide) ?_
          exact W.zret (v := 1) hx hb hr (by decide) (fun t ht hW => ⟨_, rfl, ⟨(by decide : Rg 0 1 (1 : Int32)), fun _ => ⟨g49393, g49399⟩, fun h9 => absurd h9 (by decide)⟩, ht⟩) (fun q hq => absurd hq List.not_mem_nil) dX11_canDeal_25
theorem dX6_become_0 : decode cX6_become 0 = .ok (.aload_n 0, 1) := by decide +kernel
theorem dX6_become_1 : decode cX6_become 1 = .ok (.iload_n 1, 1) := by decide +kernel
theorem dX6_become_10 : decode cX6_become 10 = .ok (.invokestatic 19, 3) := by decide +kernel
theorem dX6_become_13 : decode cX6_become 13 = .ok (.invokestatic 25, 3) := by decide +kernel
theorem dX6_become_16 : decode cX6_become 16 = .ok (.putfield 28, 3) := by decide +kernel
theorem dX6_become_19 : decode cX6_become 19 = .ok (.iconst 0, 1) := by decide +kernel
theorem dX6_become_2 : decode cX6_become 2 = .ok (.putfield 15, 3) := by decide +kernel
theorem dX6_become_20 : decode cX6_become 20 = .ok (.istore_n 3, 1) := by decide +kernel
theorem dX6_become_21 : decode cX6_become 21 = .ok (.iload_n 3, 1) := by decide +kernel
theorem dX6_become_22 : decode cX6_become 22 = .ok (.bipush 40, 2) := by decide +kernel
theorem dX6_become_24 : decode cX6_become 24 = .ok (.if_icmp .ge 16, 3) := by decide +kernel
theorem dX6_become_27 : decode cX6_become 27 = .ok (.aload_n 0, 1) := by decide +kernel
theorem dX6_become_28 : decode cX6_become 28 = .ok (.getfield 9, 3) := by decide +kernel
theorem dX6_become_31 : decode cX6_become 31 = .ok (.iload_n 3, 1) := by decide +kernel
theorem dX6_become_32 : decode cX6_become 32 = .ok (.iconst 0, 1) := by decide +kernel
theorem dX6_become_33 : decode cX6_become 33 = .ok (.iastore, 1) := by decide +kernel
theorem dX6_become_34 : decode cX6_become 34 = .ok (.iinc 3 1, 3) := by decide +kernel
theorem dX6_become_37 : decode cX6_become 37 = .ok (.goto (-16), 3) := by decide +kernel
theorem dX6_become_40 : decode cX6_become 40 = .ok (.return_, 1) := by decide +kernel
theorem dX6_become_5 : decode cX6_become 5 = .ok (.aload_n 0, 1) := by decide +kernel
theorem dX6_become_6 : decode cX6_become 6 = .ok (.iconst 0, 1) := by decide +kernel
theorem dX6_become_7 : decode cX6_become 7 = .ok (.iload_n 2, 1) := by decide +kernel
theorem dX6_become_8 : decode cX6_become 8 = .ok (.bipush 40, 2) := by decide +kernel
set_option maxHeartbeats 4000000 in
set_option maxRecDepth 100000 in
theorem k_X6_become_0 (l : Launch) (D : va_G) (cI cS : ClassId) (sz : Nat) (a : Nat → Nat) (na nc N : Nat) (l_s l_t l_i l_kp l_iz l_z l_tp l_o0 l_o1 l_o2 l_o3 l_n0 l_n1 l_n2 l_n3 : Int32) (u0 : SU) (hL : TyX (mkL l_s l_t l_i l_kp l_iz l_z l_tp l_o0 l_o1 l_o2 l_o3 l_n0 l_n1 l_n2 l_n3)) (hN : N = 0 ∨ N = 24576) (x0 x1 : Int32) : Met l yX6_become wsX6_become ({ frames := 1, cells := 0, slots := 0, locals := 40 }) (PQ D cI cS (wX cI cS a na nc N (mkL l_s l_t l_i l_kp l_iz l_z l_tp l_o0 l_o1 l_o2 l_o3 l_n0 l_n1 l_n2 l_n3) u0) sz [.ref (a 26), .int x0, .int x1]) (QE (S := Int32 × Int32 × SU) D (wX cI cS a na nc N (mkL l_s l_t l_i l_kp l_iz l_z l_tp l_o0 l_o1 l_o2 l_o3 l_n0 l_n1 l_n2 l_n3) u0) (fun q => wX cI cS a na nc N (mkL l_s l_t l_i l_kp l_iz l_z l_tp q.1 l_o1 l_o2 l_o3 q.2.1 l_n1 l_n2 l_n3) q.2.2) sz (fun q => Rg 0 40 q.2.1 ∧ (q.1.toInt = x0.toInt ∧ (0 ≤ x1.toInt → x1.toInt ≤ 40 → q.2.1.toInt = x1.toInt)))) 0 0 (va_A (wX cI cS a na nc N (mkL l_s l_t l_i l_kp l_iz l_z l_tp l_o0 l_o1 l_o2 l_o3 l_n0 l_n1 l_n2 l_n3) u0) sz) := by
  refine Met.ofW (cc := cX6_become) (maxL := 4) (ret := none) (by decide) rfl ?_
  intro p e s m args below meth c s₁ B hml hv
  obtain ⟨rfl, hsz, hP, hKK, hD0⟩ := hv
  have hx := B.exec
  have hb := B.bytes
  have hr := B.returns
  have hts := atoms_spec (ws := wsX6_become) B.pre
  have hown : s.vm.findClass RX6 = some m.cls := findClass_of_methodNamed B.named
  have hlocks := B.notSynchronized
  have hK := hKK.1
  have hin6 : ∀ w ∈ wsX60, w ∈ wsX6_become := by decide +kernel
  subst hsz
  have hD := hD0.self (sz := s.heap.size)
  obtain ⟨A, hAe⟩ : ∃ A, A = va_A (wX cI cS a na nc N (mkL l_s l_t l_i l_kp l_iz l_z l_tp l_o0 l_o1 l_o2 l_o3 l_n0 l_n1 l_n2 l_n3) u0) s.heap.size := ⟨_, rfl⟩
  rw [← hAe] at hD
  have hA : ∀ q : Nat, s.heap.size ≤ q → A q := fun q h => by rw [hAe]; exact Or.inr h
  have hS : va_S A s.heap s.heap [] := va_S.rf
  have hl := lv_entry ([.ref (a 26), .int x0, .int x1]) (n := 4) (Nat.le_of_ble_eq_true rfl)
  rw [lg_entry_eq]
  generalize (lg_sl ([.ref (a 26), .int x0, .int x1]) ++ List.replicate (4 - (lg_sl ([.ref (a 26), .int x0, .int x1])).length) Slot.unset).toArray = ls at hl ⊢
  have hl : lv_has ls 4 [(0, .ref (a 26)), (1, .int x0), (2, .int x1)] := hl
  obtain ⟨u, hu9⟩ : ∃ u : SU, u = u0 := ⟨_, rfl⟩
  rw [← hu9] at hP hD
  have p_s : Rg 0 12 l_s := hL.1
  have p_t : Rg 0 12 l_t := hL.2.1
  have p_i : Rg 0 12 l_i := hL.2.2.1
  have p_tp : Rg 0 120 l_tp := hL.2.2.2.1
  have p_n0 : Rg 0 40 l_n0 := hL.2.2.2.2.1
  have p_n1 : Rg 0 40 l_n1 := hL.2.2.2.2.2.1
  have p_n2 : Rg 0 40 l_n2 := hL.2.2.2.2.2.2.1
  have p_n3 : Rg 0 40 l_n3 := hL.2.2.2.2.2.2.2
  have lp21 : ∀ (n21 : Nat) (y21_l3 : Int32) (y21_kn0 : Int32) (u : SU) (H : Heap) (locs : List Loc) (ls : Array Slot), Rg 0 40 y21_l3 → Rg 0 40 y21_kn0 → (0 ≤ x1.toInt → x1.toInt ≤ 40 → y21_kn0.toInt = x1.toInt) → va_P D cls (wX cI cS a na nc N (mkL l_s l_t l_i l_kp l_iz l_z l_tp x0 l_o1 l_o2 l_o3 y21_kn0 l_n1 l_n2 l_n3) u) H → va_D A (wX cI cS a na nc N (mkL l_s l_t l_i l_kp l_iz l_z l_tp x0 l_o1 l_o2 l_o3 y21_kn0 l_n1 l_n2 l_n3) u) → va_S A s.heap H locs → lv_has ls 4 [(0, .ref (a 26)), (3, .int y21_l3)] → 40 - y21_l3.toInt < (n21 : Int) → W p l e (headSpec wsX6_become ({ frames := 1, cells := 0, slots := 0, locals := 40 })).room s m ([.ref (a 26), .int x0, .int x1]).toArray below meth c H locs 0 0 (MQ below (QE (S := Int32 × Int32 × SU) D (wX cI cS a na nc N (mkL l_s l_t l_i l_kp l_iz l_z l_tp l_o0 l_o1 l_o2 l_o3 l_n0 l_n1 l_n2 l_n3) u0) (fun q => wX cI cS a na nc N (mkL l_s l_t l_i l_kp l_iz l_z l_tp q.1 l_o1 l_o2 l_o3 q.2.1 l_n1 l_n2 l_n3) q.2.2) s.heap.size (fun q => Rg 0 40 q.2.1 ∧ (q.1.toInt = x0.toInt ∧ (0 ≤ x1.toInt → x1.toInt ≤ 40 → q.2.1.toInt = x1.toInt)))) ([.ref (a 26), .int x0, .int x1]).toArray s 0 0 (va_A (wX cI cS a na nc N (mkL l_s l_t l_i l_kp l_iz l_z l_tp l_o0 l_o1 l_o2 l_o3 l_n0 l_n1 l_n2 l_n3) u0) s.heap.size)) (F0 m 21 ls []) := by
    intro n21
    induction n21 with
    | zero =>
      intro y21_l3 y21_kn0 u H locs ls g21_l3 g21_kn0 x21_0 hP hD hS hl hm21
      exact absurd rfl (me_z g21_l3 hm21)
    | succ n21 ih21 =>
      intro y21_l3 y21_kn0 u H locs ls g21_l3 g21_kn0 x21_0 hP hD hS hl hm21
      refine lv_iload_n hx hb dX6_become_21 rfl (lv_at hl 1 rfl) ?_
      refine lv_bipush (v := 40) hx hb dX6_become_22 (by decide) ?_
      refine lv_icmp_ge (tgt := 40) hx hb dX6_become_24 (by decide) (fun c49458 => ?_) (fun c49458 => ?_)
      · have g49459 : Rg 40 40 y21_l3 := rg_ler (by decide : Rg 40 40 (40 : Int32)) g21_l3 c49458 (by decide)
        subst hAe
        exact W.vret hx hb hr (fun t ht hW => ⟨⟨(x0, y21_kn0, u), rfl, ⟨g21_kn0, (show x0.toInt = x0.toInt ∧ (0 ≤ x1.toInt → x1.toInt ≤ 40 → y21_kn0.toInt = x1.toInt) from by have y90 : (40 : Int32).toInt ≤ y21_l3.toInt := (lz_le _ _).mp c49458; have y91 : Rg 40 40 y21_l3 := g49459; have y92 : Rg 40 40 y21_l3 := g49459; have y93 : Rg 0 12 l_s := p_s; have y94 : Rg 0 12 l_t := p_t; have y95 : Rg 0 12 l_i := p_i; have y96 : Rg 0 120 l_tp := p_tp; have y97 : Rg 0 40 y21_kn0 := g21_kn0; have y98 : Rg 0 40 l_n1 := p_n1; have y99 : Rg 0 40 l_n2 := p_n2; have y910 : Rg 0 40 l_n3 := p_n3; have y9c11 : (0 : Int32).toInt = 0 := (by decide); have y9c12 : (1 : Int32).toInt = 1 := (by decide); have y9c13 : (40 : Int32).toInt = 40 := (by decide); omega)⟩, by rw [ht]; exact hP, hD⟩, hS.F ht⟩) hS.2.2 dX6_become_40
      · have g49460 : Rg 0 39 y21_l3 := rg_ltl g21_l3 (by decide : Rg 40 40 (40 : Int32)) (rg_nle c49458) (by decide)
        refine lv_aload_n hx hb dX6_become_27 rfl (lv_at hl 0 rfl) ?_
        refine va_get (D := D) (ci := 6) (v := .ref (a 27)) (C := RX6) (T := TX6) (N := 3) hx hb hts hin6 hown hK hP 26 rfl rfl 0 (by decide) (hts (.fieldLink RX6 9 "MissedPoints$Sheet" "numbers" "[I") (by decide +kernel)) (fun _ h9 => h9) rfl dX6_become_28 ?_
        refine lv_iload_n hx hb dX6_become_31 rfl (lv_at hl 1 rfl) ?_
        refine lv_iconst (v := 0) hx hb dX6_become_32 (by decide) ?_
        refine ks_ast hx hb hK hP hD hS rfl (k := 27) rfl sx_27 (rg_in g49460 (by decide) (by decide)) dX6_become_33 (fun u H locs hP hD hS => ?_)
        refine wk_iinc (lv' := fun r => [(3, .int r), (0, .ref (a 26))]) (e1 := 1) (f := 40) hx hb dX6_become_34 hl (k := 1) rfl (by decide) g49460 (by decide) (fun _ => rfl) (fun r49461 ls hr49461 er49461 hl => ?_)
        refine lv_goto (tgt := 21) hx hb dX6_become_37 (by decide) ?_
        exact ih21 r49461 y21_kn0 u _ _ ls (show Rg 0 40 r49461 from rg_w hr49461 (by decide) (by decide)) g21_kn0 (show (0 ≤ x1.toInt → x1.toInt ≤ 40 → y21_kn0.toInt = x1.toInt) from by have y90 : y21_l3.toInt < (40 : Int32).toInt := (lz_lt _ _).mp (rg_nle c49458); have y91 : Rg 0 39 y21_l3 := g49460; have y92 : Rg 1 40 r49461 := hr49461; have y93 : Rg 0 12 l_s := p_s; have y94 : Rg 0 12 l_t := p_t; have y95 : Rg 0 12 l_i := p_i; have y96 : Rg 0 120 l_tp := p_tp; have y97 : Rg 0 40 y21_kn0 := g21_kn0; have y98 : Rg 0 40 l_n1 := p_n1; have y99 : Rg 0 40 l_n2 := p_n2; have y910 : Rg 0 40 l_n3 := p_n3; have y9c11 : (0 : Int32).toInt = 0 := (by decide); have y9c12 : (1 : Int32).toInt = 1 := (by decide); have y9c13 : (40 : Int32).toInt = 40 := (by decide); omega) hP hD hS (lv_sub (l' := [(0, .ref (a 26)), (3, .int r49461)]) hl [1, 0] rfl) (me_up hm21 er49461 (by decide))
  refine lv_aload_n hx hb dX6_become_0 rfl (lv_at hl 0 rfl) ?_
  refine lv_iload_n hx hb dX6_become_1 rfl (lv_at hl 1 rfl) ?_
  refine va_put (D := D) (ci := 6) (v := .int x0) (ty := .int) (C := RX6) (T := TX6) (N := 3) hx hb hts hin6 tyX6 tyX6_ok nmX6 hown hK hP hD hS 26 rfl rfl 1 (by decide) (hts (.fieldLink RX6 15 "MissedPoints$Sheet" "sort" "I") (by decide +kernel)) (fun _ h9 => h9) rfl (by decide +kernel) rfl rfl (Nat.le_of_ble_eq_true rfl) dX6_become_2 (fun H locs hP hD hS => ?_)
  have hP : va_P D cls (wX cI cS a na nc N (mkL l_s l_t l_i l_kp l_iz l_z l_tp x0 l_o1 l_o2 l_o3 l_n0 l_n1 l_n2 l_n3) u) H := hP
  have hD : va_D A (wX cI cS a na nc N (mkL l_s l_t l_i l_kp l_iz l_z l_tp x0 l_o1 l_o2 l_o3 l_n0 l_n1 l_n2 l_n3) u) := hD
  refine lv_aload_n hx hb dX6_become_5 rfl (lv_at hl 0 rfl) ?_
  refine lv_iconst (v := 0) hx hb dX6_become_6 (by decide) ?_
  refine lv_iload_n hx hb dX6_become_7 rfl (lv_at hl 2 rfl) ?_
  refine lv_bipush (v := 40) hx hb dX6_become_8 (by decide) ?_
  refine va_mmin hx hb (by rw [hml]; exact hl.1.symm) hown (hts (.methodLink RX6 19 Lib.Math.min.name) (by decide +kernel)) (hts (.static Lib.Math.min.name) (by decide +kernel)) (hts (.initialized "java/lang/Math") (by decide +kernel)) (hts (.code Lib.Math.min.name Lib.Math.min.code 2 (some .int)) (by decide +kernel)) (Nat.le_of_ble_eq_true rfl) (Nat.le_of_ble_eq_true rfl) (Nat.le_of_ble_eq_true rfl) (Nat.le_of_ble_eq_true rfl) dX6_become_10 ?_
  refine wk_topP (P := fun r => Rg (-2147483648) 40 r ∧ (r.toInt ≤ x1.toInt ∧ r.toInt ≤ (40 : Int32).toInt) ∧ (r.toInt = x1.toInt ∨ r.toInt = (40 : Int32).toInt)) ⟨wk_min (rg_any x1) (by decide : Rg 40 40 (40 : Int32)) (by decide), ⟨⟨wk_minE.1, wk_minE.2.1⟩, wk_minE.2.2⟩⟩ (fun r49462 hr49462 => ?_)
  refine va_mmax hx hb (by rw [hml]; exact hl.1.symm) hown (hts (.methodLink RX6 25 Lib.Math.max.name) (by decide +kernel)) (hts (.static Lib.Math.max.name) (by decide +kernel)) (hts (.initialized "java/lang/Math") (by decide +kernel)) (hts (.code Lib.Math.max.name Lib.Math.max.code 2 (some .int)) (by decide +kernel)) (Nat.le_of_ble_eq_true rfl) (Nat.le_of_ble_eq_true rfl) (Nat.le_of_ble_eq_true rfl) (Nat.le_of_ble_eq_true rfl) dX6_become_13 ?_
  refine wk_topP (P := fun r => Rg 0 40 r ∧ ((0 : Int32).toInt ≤ r.toInt ∧ r49462.toInt ≤ r.toInt) ∧ (r.toInt = (0 : Int32).toInt ∨ r.toInt = r49462.toInt)) ⟨wk_max (by decide : Rg 0 0 (0 : Int32)) hr49462.1 (by decide), ⟨⟨wk_maxE.1, wk_maxE.2.1⟩, wk_maxE.2.2⟩⟩ (fun r49463 hr49463 => ?_)
  refine va_put (D := D) (ci := 6) (v := .int r49463) (ty := .int) (C := RX6) (T := TX6) (N := 3) hx hb hts hin6 tyX6 tyX6_ok nmX6 hown hK hP hD hS 26 rfl rfl 2 (by decide) (hts (.fieldLink RX6 28 "MissedPoints$Sheet" "size" "I") (by decide +kernel)) (fun _ h9 => h9) rfl (by decide +kernel) rfl rfl (Nat.le_of_ble_eq_true rfl) dX6_become_16 (fun H locs hP hD hS => ?_)
  have hP : va_P D cls (wX cI cS a na nc N (mkL l_s l_t l_i l_kp l_iz l_z l_tp x0 l_o1 l_o2 l_o3 r49463 l_n1 l_n2 l_n3) u) H := hP
  have hD : va_D A (wX cI cS a na nc N (mkL l_s l_t l_i l_kp l_iz l_z l_tp x0 l_o1 l_o2 l_o3 r49463 l_n1 l_n2 l_n3) u) := hD
  refine lv_iconst (v := 0) hx hb dX6_become_19 (by decide) ?_
  refine lv_istore_n (lv' := [(3, .int 0), (0, .ref (a 26)), (1, .int x0), (2, .int x1)]) hx hb dX6_become_20 rfl hl (by decide) rfl (fun ls hl => ?_)
  exact lp21 41 (0 : Int32) r49463 u _ _ ls (by decide : Rg 0 40 (0 : Int32)) hr49463.1 (show (0 ≤ x1.toInt → x1.toInt ≤ 40 → r49463.toInt = x1.toInt) from by have y90 : Rg 0 12 l_s := p_s; have y91 : Rg 0 12 l_t := p_t; have y92 : Rg 0 12 l_i := p_i; have y93 : Rg 0 120 l_tp := p_tp; have y94 : Rg 0 40 r49463 := hr49463.1; have y95 : Rg 0 40 l_n1 := p_n1; have y96 : Rg 0 40 l_n2 := p_n2; have y97 : Rg 0 40 l_n3 := p_n3; have y9c8 : (0 : Int32).toInt = 0 := (by decide); have y9c9 : (1 : Int32).toInt = 1 := (by decide); have y9c10 : (40 : Int32).toInt = 40 := (by decide); omega) hP hD hS (lv_sub (l' := [(0, .ref (a 26)), (3, .int 0)]) hl [1, 0] rfl) (me_i (by decide : Rg 0 40 (0 : Int32)) (by decide))
set_option maxRecDepth 20000 in
theorem ggX9_writeTo_X6_become : GoodIn wsX9_writeTo wsX6_become := goodIn_r _ [7, 8, 9, 10, 11, 12, 13, 14, 15, 16, 17, 35, 36, 37] rfl (by decide +kernel)
set_option maxRecDepth 20000 in
theorem gX9_writeTo_X6_become : GoodIn wsX9_writeTo (wsV RX9 52 RX6 yX6_become wsX6_become) := goodIn_app (goodIn_of _ (by decide +kernel)) ggX9_writeTo_X6_become
set_option maxRecDepth 20000 in
theorem ggX9_writeTo_X6_store : GoodIn wsX9_writeTo wsX6_store := goodIn_r _ [21, 17, 8, 22, 23, 24, 6, 25, 16, 35, 36, 37] rfl (by decide +kernel)
set_option maxRecDepth 20000 in
theorem gX9_writeTo_X6_store : GoodIn wsX9_writeTo (wsV RX9 56 RX6 yX6_store wsX6_store) := goodIn_app (goodIn_of _ (by decide +kernel)) ggX9_writeTo_X6_store
theorem dX9_writeTo_0 : decode cX9_writeTo 0 = .ok (.aload_n 1, 1) := by decide +kernel
theorem dX9_writeTo_1 : decode cX9_writeTo 1 = .ok (.iload_n 2, 1) := by decide +kernel
theorem dX9_writeTo_12 : decode cX9_writeTo 12 = .ok (.iconst 0, 1) := by decide +kernel
theorem dX9_writeTo_13 : decode cX9_writeTo 13 = .ok (.istore_n 3, 1) := by decide +kernel
theorem dX9_writeTo_14 : decode cX9_writeTo 14 = .ok (.iload_n 3, 1) := by decide +kernel
theorem dX9_writeTo_15 : decode cX9_writeTo 15 = .ok (.aload_n 0, 1) := by decide +kernel
theorem dX9_writeTo_16 : decode cX9_writeTo 16 = .ok (.getfield 21, 3) := by decide +kernel
theorem dX9_writeTo_19 : decode cX9_writeTo 19 = .ok (.getfield 41, 3) := by decide +kernel
theorem dX9_writeTo_2 : decode cX9_writeTo 2 = .ok (.aload_n 0, 1) := by decide +kernel
theorem dX9_writeTo_22 : decode cX9_writeTo 22 = .ok (.if_icmp .ge 20, 3) := by decide +kernel
theorem dX9_writeTo_25 : decode cX9_writeTo 25 = .ok (.aload_n 1, 1) := by decide +kernel
theorem dX9_writeTo_26 : decode cX9_writeTo 26 = .ok (.iload_n 3, 1) := by decide +kernel
theorem dX9_writeTo_27 : decode cX9_writeTo 27 = .ok (.aload_n 0, 1) := by decide +kernel
theorem dX9_writeTo_28 : decode cX9_writeTo 28 = .ok (.getfield 9, 3) := by decide +kernel
theorem dX9_writeTo_3 : decode cX9_writeTo 3 = .ok (.getfield 21, 3) := by decide +kernel
theorem dX9_writeTo_31 : decode cX9_writeTo 31 = .ok (.iload_n 3, 1) := by decide +kernel
theorem dX9_writeTo_32 : decode cX9_writeTo 32 = .ok (.iaload, 1) := by decide +kernel
theorem dX9_writeTo_33 : decode cX9_writeTo 33 = .ok (.invokevirtual 56, 3) := by decide +kernel
theorem dX9_writeTo_36 : decode cX9_writeTo 36 = .ok (.iinc 3 1, 3) := by decide +kernel
theorem dX9_writeTo_39 : decode cX9_writeTo 39 = .ok (.goto (-25), 3) := by decide +kernel
theorem dX9_writeTo_42 : decode cX9_writeTo 42 = .ok (.return_, 1) := by decide +kernel
theorem dX9_writeTo_6 : decode cX9_writeTo 6 = .ok (.getfield 41, 3) := by decide +kernel
theorem dX9_writeTo_9 : decode cX9_writeTo 9 = .ok (.invokevirtual 52, 3) := by decide +kernel
set_option maxHeartbeats 4000000 in
set_option maxRecDepth 100000 in
theorem k_X9_writeTo_0 (l : Launch) (D : va_G) (cI cS : ClassId) (sz : Nat) (a : Nat → Nat) (na nc N : Nat) (l_s l_t l_i l_kp l_iz l_z l_tp l_o0 l_o1 l_o2 l_o3 l_n0 l_n1 l_n2 l_n3 : Int32) (u0 : SU) (hL : TyX (mkL l_s l_t l_i l_kp l_iz l_z l_tp l_o0 l_o1 l_o2 l_o3 l_n0 l_n1 l_n2 l_n3)) (hN : N = 0 ∨ N = 24576) (x0 : Int32) : Met l yX9_writeTo wsX9_writeTo ({ frames := 2, cells := 0, slots := 0, locals := 80 }) (PQ D cI cS (wX cI cS a na nc N (mkL l_s l_t l_i l_kp l_iz l_z l_tp l_o0 l_o1 l_o2 l_o3 l_n0 l_n1 l_n2 l_n3) u0) sz [.ref (a 34), .ref (a 26), .int x0]) (QE (S := Int32 × Int32 × SU) D (wX cI cS a na nc N (mkL l_s l_t l_i l_kp l_iz l_z l_tp l_o0 l_o1 l_o2 l_o3 l_n0 l_n1 l_n2 l_n3) u0) (fun q => wX cI cS a na nc N (mkL l_s l_t l_i l_kp l_iz l_z l_tp q.1 l_o1 l_o2 l_o3 q.2.1 l_n1 l_n2 l_n3) q.2.2) sz (fun q => Rg 0 40 q.2.1 ∧ (q.1.toInt = x0.toInt ∧ q.2.1.toInt = l_s.toInt))) 0 0 (va_A (wX cI cS a na nc N (mkL l_s l_t l_i l_kp l_iz l_z l_tp l_o0 l_o1 l_o2 l_o3 l_n0 l_n1 l_n2 l_n3) u0) sz) := by
  refine Met.ofW (cc := cX9_writeTo) (maxL := 4) (ret := none) (by decide) rfl ?_
  intro p e s m args below meth c s₁ B hml hv
  obtain ⟨rfl, hsz, hP, hKK, hD0⟩ := hv
  have hx := B.exec
  have hb := B.bytes
  have hr := B.returns
  have hts := atoms_spec (ws := wsX9_writeTo) B.pre
  have hown : s.vm.findClass RX9 = some m.cls := findClass_of_methodNamed B.named
  have hlocks := B.notSynchronized
  have hK := hKK.1
  have hin2 : ∀ w ∈ wsX20, w ∈ wsX9_writeTo := by decide +kernel
  have hin9 : ∀ w ∈ wsX90, w ∈ wsX9_writeTo := by decide +kernel
  subst hsz
  have hD := hD0.self (sz := s.heap.size)
  obtain ⟨A, hAe⟩ : ∃ A, A = va_A (wX cI cS a na nc N (mkL l_s l_t l_i l_kp l_iz l_z l_tp l_o0 l_o1 l_o2 l_o3 l_n0 l_n1 l_n2 l_n3) u0) s.heap.size := ⟨_, rfl⟩
  rw [← hAe] at hD
  have hA : ∀ q : Nat, s.heap.size ≤ q → A q := fun q h => by rw [hAe]; exact Or.inr h
  have hS : va_S A s.heap s.heap [] := va_S.rf
  have hl := lv_entry ([.ref (a 34), .ref (a 26), .int x0]) (n := 4) (Nat.le_of_ble_eq_true rfl)
  rw [lg_entry_eq]
  generalize (lg_sl ([.ref (a 34), .ref (a 26), .int x0]) ++ List.replicate (4 - (lg_sl ([.ref (a 34), .ref (a 26), .int x0])).length) Slot.unset).toArray = ls at hl ⊢
  have hl : lv_has ls 4 [(0, .ref (a 34)), (1, .ref (a 26)), (2, .int x0)] := hl
  obtain ⟨u, hu9⟩ : ∃ u : SU, u = u0 := ⟨_, rfl⟩
  rw [← hu9] at hP hD
  have p_s : Rg 0 12 l_s := hL.1
  have p_t : Rg 0 12 l_t := hL.2.1
  have p_i : Rg 0 12 l_i := hL.2.2.1
  have p_tp : Rg 0 120 l_tp := hL.2.2.2.1
  have p_n0 : Rg 0 40 l_n0 := hL.2.2.2.2.1
  have p_n1 : Rg 0 40 l_n1 := hL.2.2.2.2.2.1
  have p_n2 : Rg 0 40 l_n2 := hL.2.2.2.2.2.2.1
  have p_n3 : Rg 0 40 l_n3 := hL.2.2.2.2.2.2.2
  have lp14 : ∀ (n14 : Nat) (y14_l3 : Int32) (y14_ko0 : Int32) (y14_kn0 : Int32) (u : SU) (H : Heap) (locs : List Loc) (ls : Array Slot), Rg 0 12 y14_l3 → Rg 0 40 y14_kn0 → (y14_ko0.toInt = x0.toInt ∧ y14_kn0.toInt = l_s.toInt) → va_P D cls (wX cI cS a na nc N (mkL l_s l_t l_i l_kp l_iz l_z l_tp y14_ko0 l_o1 l_o2 l_o3 y14_kn0 l_n1 l_n2 l_n3) u) H → va_D A (wX cI cS a na nc N (mkL l_s l_t l_i l_kp l_iz l_z l_tp y14_ko0 l_o1 l_o2 l_o3 y14_kn0 l_n1 l_n2 l_n3) u) → va_S A s.heap H locs → lv_has ls 4 [(0, .ref (a 34)), (1, .ref (a 26)), (3, .int y14_l3)] → 12 - y14_l3.toInt < (n14 : Int) → W p l e (headSpec wsX9_writeTo ({ frames := 2, cells := 0, slots := 0, locals := 80 })).room s m ([.ref (a 34), .ref (a 26), .int x0]).toArray below meth c H locs 0 0 (MQ below (QE (S := Int32 × Int32 × SU) D (wX cI cS a na nc N (mkL l_s l_t l_i l_kp l_iz l_z l_tp l_o0 l_o1 l_o2 l_o3 l_n0 l_n1 l_n2 l_n3) u0) (fun q => wX cI cS a na nc N (mkL l_s l_t l_i l_kp l_iz l_z l_tp q.1 l_o1 l_o2 l_o3 q.2.1 l_n1 l_n2 l_n3) q.2.2) s.heap.size (fun q => Rg 0 40 q.2.1 ∧ (q.1.toInt = x0.toInt ∧ q.2.1.toInt = l_s.toInt))) ([.ref (a 34), .ref (a 26), .int x0]).toArray s 0 0 (va_A (wX cI cS a na nc N (mkL l_s l_t l_i l_kp l_iz l_z l_tp l_o0 l_o1 l_o2 l_o3 l_n0 l_n1 l_n2 l_n3) u0) s.heap.size)) (F0 m 14 ls []) := by
    intro n14
    induction n14 with
    | zero =>
      intro y14_l3 y14_ko0 y14_kn0 u H locs ls g14_l3 g14_kn0 x14_0 hP hD hS hl hm14
      exact absurd rfl (me_z g14_l3 hm14)
    | succ n14 ih14 =>
      intro y14_l3 y14_ko0 y14_kn0 u H locs ls g14_l3 g14_kn0 x14_0 hP hD hS hl hm14
      refine lv_iload_n hx hb dX9_writeTo_14 rfl (lv_at hl 2 rfl) ?_
      refine lv_aload_n hx hb dX9_writeTo_15 rfl (lv_at hl 0 rfl) ?_
      refine va_get (D := D) (ci := 9) (v := .ref (a 1)) (C := RX9) (T := TX9) (N := 6) hx hb hts hin9 hown hK hP 34 rfl rfl 0 (by decide) (hts (.fieldLink RX9 21 "MissedPoints$Told" "net" "LMissedPoints$Net;") (by decide +kernel)) (fun _ h9 => h9) rfl dX9_writeTo_16 ?_
      refine va_getN (D := D) (ci := 2) (v := .int l_s) (C := RX2) (T := TX2) (N := 3) hx hb hts hin2 hown hK hP 1 rfl rfl 1 (by decide) (va_Nw.use rfl hKK.2.2.2.2.2.2.2.2.2.2.2.2.2.2.2.2.1) (fun _ h9 => h9) rfl dX9_writeTo_19 ?_
      refine lv_icmp_ge (tgt := 42) hx hb dX9_writeTo_22 (by decide) (fun c49545 => ?_) (fun c49545 => ?_)
      · subst hAe
        exact W.vret hx hb hr (fun t ht hW => ⟨⟨(y14_ko0, y14_kn0, u), rfl, ⟨g14_kn0, (show y14_ko0.toInt = x0.toInt ∧ y14_kn0.toInt = l_s.toInt from by have y90 : l_s.toInt ≤ y14_l3.toInt := (lz_le _ _).mp c49545; have y91 : Rg 0 12 y14_l3 := g14_l3; have y92 : Rg 0 12 l_s := p_s; have y93 : Rg 0 12 l_t := p_t; have y94 : Rg 0 12 l_i := p_i; have y95 : Rg 0 120 l_tp := p_tp; have y96 : Rg 0 40 y14_kn0 := g14_kn0; have y97 : Rg 0 40 l_n1 := p_n1; have y98 : Rg 0 40 l_n2 := p_n2; have y99 : Rg 0 40 l_n3 := p_n3; have y9c10 : (0 : Int32).toInt = 0 := (by decide); have y9c11 : (1 : Int32).toInt = 1 := (by decide); omega)⟩, by rw [ht]; exact hP, hD⟩, hS.F ht⟩) hS.2.2 dX9_writeTo_42
      · have g49546 : Rg 1 12 l_s := rg_ltr g14_l3 p_s (rg_nle c49545) (by decide)
        have g49547 : Rg 0 11 y14_l3 := rg_ltl g14_l3 p_s (rg_nle c49545) (by decide)
        refine lv_aload_n hx hb dX9_writeTo_25 rfl (lv_at hl 1 rfl) ?_
        refine lv_iload_n hx hb dX9_writeTo_26 rfl (lv_at hl 2 rfl) ?_
        refine lv_aload_n hx hb dX9_writeTo_27 rfl (lv_at hl 0 rfl) ?_
        refine va_get (D := D) (ci := 9) (v := .ref (a 35)) (C := RX9) (T := TX9) (N := 6) hx hb hts hin9 hown hK hP 34 rfl rfl 2 (by decide) (hts (.fieldLink RX9 9 "MissedPoints$Told" "mates" "[I") (by decide +kernel)) (fun _ h9 => h9) rfl dX9_writeTo_28 ?_
        refine lv_iload_n hx hb dX9_writeTo_31 rfl (lv_at hl 2 rfl) ?_
        refine wk_aldA hx hb hK hP 35 0 rfl rfl (rg_in g49547 (by decide) (by decide)) dX9_writeTo_32 (fun r49548 => ?_)
        refine wk_qv (wX cI cS a na nc N (mkL l_s l_t l_i l_kp l_iz l_z l_tp y14_ko0 l_o1 l_o2 l_o3 y14_kn0 l_n1 l_n2 l_n3)) u (As := [.int y14_l3, .int r49548]) (rest := []) ⟨hx, hb, hml, hown, hts⟩ (k_X6_store l D cI cS _ a na nc N (mkL l_s l_t l_i l_kp l_iz l_z l_tp y14_ko0 l_o1 l_o2 l_o3 y14_kn0 l_n1 l_n2 l_n3) u (show TyX (mkL l_s l_t l_i l_kp l_iz l_z l_tp y14_ko0 l_o1 l_o2 l_o3 y14_kn0 l_n1 l_n2 l_n3) from ⟨(show Rg 0 12 l_s from rg_w g49546 (by decide) (by decide)), p_t, p_i, p_tp, g14_kn0, p_n1, p_n2, p_n3⟩) hN 0 (by decide) y14_l3 r49548) hKK hP hD hS hA 26 (ci := 6) rfl rfl (cwV 2 hts gX9_writeTo_X6_store rfl rfl rfl (by decide +kernel) ⟨Nat.le_of_ble_eq_true rfl, Nat.le_of_ble_eq_true rfl⟩) rfl hl.1 rfl (Nat.le_of_ble_eq_true rfl) dX9_writeTo_33 ⟨Nat.le_of_ble_eq_true rfl, Nat.le_of_ble_eq_true rfl⟩ (fun u H locs hr49549 hP hD hS => ?_)
        refine wk_iinc (lv' := fun r => [(3, .int r), (0, .ref (a 34)), (1, .ref (a 26))]) (e1 := 1) (f := 12) hx hb dX9_writeTo_36 hl (k := 2) rfl (by decide) g49547 (by decide) (fun _ => rfl) (fun r49550 ls hr49550 er49550 hl => ?_)
        refine lv_goto (tgt := 14) hx hb dX9_writeTo_39 (by decide) ?_
        exact ih14 r49550 y14_ko0 y14_kn0 u _ _ ls (show Rg 0 12 r49550 from rg_w hr49550 (by decide) (by decide)) g14_kn0 (show (y14_ko0.toInt = x0.toInt ∧ y14_kn0.toInt = l_s.toInt) from by have y90 : y14_l3.toInt < l_s.toInt := (lz_lt _ _).mp (rg_nle c49545); have y91 : Rg 1 12 l_s := g49546; have y92 : Rg 0 11 y14_l3 := g49547; have y93 : Rg 1 12 r49550 := hr49550; have y94 : Rg 1 12 l_s := g49546; have y95 : Rg 0 12 l_t := p_t; have y96 : Rg 0 12 l_i := p_i; have y97 : Rg 0 120 l_tp := p_tp; have y98 : Rg 0 40 y14_kn0 := g14_kn0; have y99 : Rg 0 40 l_n1 := p_n1; have y910 : Rg 0 40 l_n2 := p_n2; have y911 : Rg 0 40 l_n3 := p_n3; have y9c12 : (0 : Int32).toInt = 0 := (by decide); have y9c13 : (1 : Int32).toInt = 1 := (by decide); omega) hP hD hS (lv_sub (l' := [(0, .ref (a 34)), (1, .ref (a 26)), (3, .int r49550)]) hl [1, 2, 0] rfl) (me_up hm14 er49550 (by decide))
  refine lv_aload_n hx hb dX9_writeTo_0 rfl (lv_at hl 1 rfl) ?_
  refine lv_iload_n hx hb dX9_writeTo_1 rfl (lv_at hl 2 rfl) ?_
  refine lv_aload_n hx hb dX9_writeTo_2 rfl (lv_at hl 0 rfl) ?_
  refine va_get (D := D) (ci := 9) (v := .ref (a 1)) (C := RX9) (T := TX9) (N := 6) hx hb hts hin9 hown hK hP 34 rfl rfl 0 (by decide) (hts (.fieldLink RX9 21 "MissedPoints$Told" "net" "LMissedPoints$Net;") (by decide +kernel)) (fun _ h9 => h9) rfl dX9_writeTo_3 ?_
  refine va_getN (D := D) (ci := 2) (v := .int l_s) (C := RX2) (T := TX2) (N := 3) hx hb hts hin2 hown hK hP 1 rfl rfl 1 (by decide) (va_Nw.use rfl hKK.2.2.2.2.2.2.2.2.2.2.2.2.2.2.2.2.1) (fun _ h9 => h9) rfl dX9_writeTo_6 ?_
  refine wk_qv (S := Int32 × Int32 × SU) (fun q => wX cI cS a na nc N (mkL l_s l_t l_i l_kp l_iz l_z l_tp q.1 l_o1 l_o2 l_o3 q.2.1 l_n1 l_n2 l_n3) q.2.2) (l_o0, l_n0, u) (As := [.int x0, .int l_s]) (rest := []) ⟨hx, hb, hml, hown, hts⟩ (k_X6_become_0 l D cI cS _ a na nc N l_s l_t l_i l_kp l_iz l_z l_tp l_o0 l_o1 l_o2 l_o3 l_n0 l_n1 l_n2 l_n3 u (show TyX (mkL l_s l_t l_i l_kp l_iz l_z l_tp l_o0 l_o1 l_o2 l_o3 l_n0 l_n1 l_n2 l_n3) from ⟨p_s, p_t, p_i, p_tp, p_n0, p_n1, p_n2, p_n3⟩) hN x0 l_s) hKK hP hD hS hA 26 (ci := 6) rfl rfl (cwV 2 hts gX9_writeTo_X6_become rfl rfl rfl (by decide +kernel) ⟨Nat.le_of_ble_eq_true rfl, Nat.le_of_ble_eq_true rfl⟩) rfl hl.1 rfl (Nat.le_of_ble_eq_true rfl) dX9_writeTo_9 ⟨Nat.le_of_ble_eq_true rfl, Nat.le_of_ble_eq_true rfl⟩ (fun q9 H locs hr49551 hP hD hS => ?_)
  obtain ⟨r49552, r49553, u⟩ := q9
  have hr49551 : Rg 0 40 r49553 ∧ (r49552.toInt = x0.toInt ∧ (0 ≤ l_s.toInt → l_s.toInt ≤ 40 → r49553.toInt = l_s.toInt)) := hr49551
  have hP : va_P D cls (wX cI cS a na nc N (mkL l_s l_t l_i l_kp l_iz l_z l_tp r49552 l_o1 l_o2 l_o3 r49553 l_n1 l_n2 l_n3) u) H := hP
  have hD : va_D A (wX cI cS a na nc N (mkL l_s l_t l_i l_kp l_iz l_z l_tp r49552 l_o1 l_o2 l_o3 r49553 l_n1 l_n2 l_n3) u) := hD
  have kr49551_0 := hr49551.2
  refine lv_iconst (v := 0) hx hb dX9_writeTo_12 (by decide) ?_
  refine lv_istore_n (lv' := [(3, .int 0), (0, .ref (a 34)), (1, .ref (a 26)), (2, .int x0)]) hx hb dX9_writeTo_13 rfl hl (by decide) rfl (fun ls hl => ?_)
  exact lp14 13 (0 : Int32) r49552 r49553 u _ _ ls (by decide : Rg 0 12 (0 : Int32)) hr49551.1 (show (r49552.toInt = x0.toInt ∧ r49553.toInt = l_s.toInt) from by have y90 : Rg 0 12 l_s := p_s; have y91 : Rg 0 12 l_t := p_t; have y92 : Rg 0 12 l_i := p_i; have y93 : Rg 0 120 l_tp := p_tp; have y94 : Rg 0 40 r49553 := hr49551.1; have y95 : Rg 0 40 l_n1 := p_n1; have y96 : Rg 0 40 l_n2 := p_n2; have y97 : Rg 0 40 l_n3 := p_n3; have y9c8 : (0 : Int32).toInt = 0 := (by decide); have y9c9 : (1 : Int32).toInt = 1 := (by decide); omega) hP hD hS (lv_sub (l' := [(0, .ref (a 34)), (1, .ref (a 26)), (3, .int 0)]) hl [1, 2, 0] rfl) (me_i (by decide : Rg 0 12 (0 : Int32)) (by decide))
set_option maxHeartbeats 4000000 in
set_option maxRecDepth 100000 in
theorem k_X6_become_1 (l : Launch) (D : va_G) (cI cS : ClassId) (sz : Nat) (a : Nat → Nat) (na nc N : Nat) (l_s l_t l_i l_kp l_iz l_z l_tp l_o0 l_o1 l_o2 l_o3 l_n0 l_n1 l_n2 l_n3 : Int32) (u0 : SU) (hL : TyX (mkL l_s l_t l_i l_kp l_iz l_z l_tp l_o0 l_o1 l_o2 l_o3 l_n0 l_n1 l_n2 l_n3)) (hN : N = 0 ∨ N = 24576) (x0 x1 : Int32) : Met l yX6_become wsX6_become ({ frames := 1, cells := 0, slots := 0, locals := 40 }) (PQ D cI cS (wX cI cS a na nc N (mkL l_s l_t l_i l_kp l_iz l_z l_tp l_o0 l_o1 l_o2 l_o3 l_n0 l_n1 l_n2 l_n3) u0) sz [.ref (a 28), .int x0, .int x1]) (QE (S := Int32 × Int32 × SU) D (wX cI cS a na nc N (mkL l_s l_t l_i l_kp l_iz l_z l_tp l_o0 l_o1 l_o2 l_o3 l_n0 l_n1 l_n2 l_n3) u0) (fun q => wX cI cS a na nc N (mkL l_s l_t l_i l_kp l_iz l_z l_tp l_o0 q.1 l_o2 l_o3 l_n0 q.2.1 l_n2 l_n3) q.2.2) sz (fun q => Rg 0 40 q.2.1 ∧ (q.1.toInt = x0.toInt ∧ (0 ≤ x1.toInt → x1.toInt ≤ 40 → q.2.1.toInt = x1.toInt)))) 0 0 (va_A (wX cI cS a na nc N (mkL l_s l_t l_i l_kp l_iz l_z l_tp l_o0 l_o1 l_o2 l_o3 l_n0 l_n1 l_n2 l_n3) u0) sz) := by
  refine Met.ofW (cc := cX6_become) (maxL := 4) (ret := none) (by decide) rfl ?_
  intro p e s m args below meth c s₁ B hml hv
  obtain ⟨rfl, hsz, hP, hKK, hD0⟩ := hv
  have hx := B.exec
  have hb := B.bytes
  have hr := B.returns
  have hts := atoms_spec (ws := wsX6_become) B.pre
  have hown : s.vm.findClass RX6 = some m.cls := findClass_of_methodNamed B.named
  have hlocks := B.notSynchronized
  have hK := hKK.1
  have hin6 : ∀ w ∈ wsX60, w ∈ wsX6_become := by decide +kernel
  subst hsz
  have hD := hD0.self (sz := s.heap.size)
  obtain ⟨A, hAe⟩ : ∃ A, A = va_A (wX cI cS a na nc N (mkL l_s l_t l_i l_kp l_iz l_z l_tp l_o0 l_o1 l_o2 l_o3 l_n0 l_n1 l_n2 l_n3) u0) s.heap.size := ⟨_, rfl⟩
  rw [← hAe] at hD
  have hA : ∀ q : Nat, s.heap.size ≤ q → A q := fun q h => by rw [hAe]; exact Or.inr h
  have hS : va_S A s.heap s.heap [] := va_S.rf
  have hl := lv_entry ([.ref (a 28), .int x0, .int x1]) (n := 4) (Nat.le_of_ble_eq_true rfl)
  rw [lg_entry_eq]
  generalize (lg_sl ([.ref (a 28), .int x0, .int x1]) ++ List.replicate (4 - (lg_sl ([.ref (a 28), .int x0, .int x1])).length) Slot.unset).toArray = ls at hl ⊢
  have hl : lv_has ls 4 [(0, .ref (a 28)), (1, .int x0), (2, .int x1)] := hl
  obtain ⟨u, hu9⟩ : ∃ u : SU, u = u0 := ⟨_, rfl⟩
  rw [← hu9] at hP hD
  have p_s : Rg 0 12 l_s := hL.1
  have p_t : Rg 0 12 l_t := hL.2.1
  have p_i : Rg 0 12 l_i := hL.2.2.1
  have p_tp : Rg 0 120 l_tp := hL.2.2.2.1
  have p_n0 : Rg 0 40 l_n0 := hL.2.2.2.2.1
  have p_n1 : Rg 0 40 l_n1 := hL.2.2.2.2.2.1
  have p_n2 : Rg 0 40 l_n2 := hL.2.2.2.2.2.2.1
  have p_n3 : Rg 0 40 l_n3 := hL.2.2.2.2.2.2.2
  have lp21 : ∀ (n21 : Nat) (y21_l3 : Int32) (y21_kn1 : Int32) (u : SU) (H : Heap) (locs : List Loc) (ls : Array Slot), Rg 0 40 y21_l3 → Rg 0 40 y21_kn1 → (0 ≤ x1.toInt → x1.toInt ≤ 40 → y21_kn1.toInt = x1.toInt) → va_P D cls (wX cI cS a na nc N (mkL l_s l_t l_i l_kp l_iz l_z l_tp l_o0 x0 l_o2 l_o3 l_n0 y21_kn1 l_n2 l_n3) u) H → va_D A (wX cI cS a na nc N (mkL l_s l_t l_i l_kp l_iz l_z l_tp l_o0 x0 l_o2 l_o3 l_n0 y21_kn1 l_n2 l_n3) u) → va_S A s.heap H locs → lv_has ls 4 [(0, .ref (a 28)), (3, .int y21_l3)] → 40 - y21_l3.toInt < (n21 : Int) → W p l e (headSpec wsX6_become ({ frames := 1, cells := 0, slots := 0, locals := 40 })).room s m ([.ref (a 28), .int x0, .int x1]).toArray below meth c H locs 0 0 (MQ below (QE (S := Int32 × Int32 × SU) D (wX cI cS a na nc N (mkL l_s l_t l_i l_kp l_iz l_z l_tp l_o0 l_o1 l_o2 l_o3 l_n0 l_n1 l_n2 l_n3) u0) (fun q => wX cI cS a na nc N (mkL l_s l_t l_i l_kp l_iz l_z l_tp l_o0 q.1 l_o2 l_o3 l_n0 q.2.1 l_n2 l_n3) q.2.2) s.heap.size (fun q => Rg 0 40 q.2.1 ∧ (q.1.toInt = x0.toInt ∧ (0 ≤ x1.toInt → x1.toInt ≤ 40 → q.2.1.toInt = x1.toInt)))) ([.ref (a 28), .int x0, .int x1]).toArray s 0 0 (va_A (wX cI cS a na nc N (mkL l_s l_t l_i l_kp l_iz l_z l_tp l_o0 l_o1 l_o2 l_o3 l_n0 l_n1 l_n2 l_n3) u0) s.heap.size)) (F0 m 21 ls []) := by
    intro n21
    induction n21 with
    | zero =>
      intro y21_l3 y21_kn1 u H locs ls g21_l3 g21_kn1 x21_0 hP hD hS hl hm21
      exact absurd rfl (me_z g21_l3 hm21)
    | succ n21 ih21 =>
      intro y21_l3 y21_kn1 u H locs ls g21_l3 g21_kn1 x21_0 hP hD hS hl hm21
      refine lv_iload_n hx hb dX6_become_21 rfl (lv_at hl 1 rfl) ?_
      refine lv_bipush (v := 40) hx hb dX6_become_22 (by decide) ?_
      refine lv_icmp_ge (tgt := 40) hx hb dX6_become_24 (by decide) (fun c49612 => ?_) (fun c49612 => ?_)
      · have g49613 : Rg 40 40 y21_l3 := rg_ler (by decide : Rg 40 40 (40 : Int32)) g21_l3 c49612 (by decide)
        subst hAe
        exact W.vret hx hb hr (fun t ht hW => ⟨⟨(x0, y21_kn1, u), rfl, ⟨g21_kn1, (show x0.toInt = x0.toInt ∧ (0 ≤ x1.toInt → x1.toInt ≤ 40 → y21_kn1.toInt = x1.toInt) from by have y90 : (40 : Int32).toInt ≤ y21_l3.toInt := (lz_le _ _).mp c49612; have y91 : Rg 40 40 y21_l3 := g49613; have y92 : Rg 40 40 y21_l3 := g49613; have y93 : Rg 0 12 l_s := p_s; have y94 : Rg 0 12 l_t := p_t; have y95 : Rg 0 12 l_i := p_i; have y96 : Rg 0 120 l_tp := p_tp; have y97 : Rg 0 40 l_n0 := p_n0; have y98 : Rg 0 40 y21_kn1 := g21_kn1; have y99 : Rg 0 40 l_n2 := p_n2; have y910 : Rg 0 40 l_n3 := p_n3; have y9c11 : (0 : Int32).toInt = 0 := (by decide); have y9c12 : (1 : Int32).toInt = 1 := (by decide); have y9c13 : (40 : Int32).toInt = 40 := (by decide); omega)⟩, by rw [ht]; exact hP, hD⟩, hS.F ht⟩) hS.2.2 dX6_become_40
      · have g49614 : Rg 0 39 y21_l3 := rg_ltl g21_l3 (by decide : Rg 40 40 (40 : Int32)) (rg_nle c49612) (by decide)
        refine lv_aload_n hx hb dX6_become_27 rfl (lv_at hl 0 rfl) ?_
        refine va_get (D := D) (ci := 6) (v := .ref (a 29)) (C := RX6) (T := TX6) (N := 3) hx hb hts hin6 hown hK hP 28 rfl rfl 0 (by decide) (hts (.fieldLink RX6 9 "MissedPoints$Sheet" "numbers" "[I") (by decide +kernel)) (fun _ h9 => h9) rfl dX6_become_28 ?_
        refine lv_iload_n hx hb dX6_become_31 rfl (lv_at hl 1 rfl) ?_
        refine lv_iconst (v := 0) hx hb dX6_become_32 (by decide) ?_
        refine ks_ast hx hb hK hP hD hS rfl (k := 29) rfl sx_29 (rg_in g49614 (by decide) (by decide)) dX6_become_33 (fun u H locs hP hD hS => ?_)
        refine wk_iinc (lv' := fun r => [(3, .int r), (0, .ref (a 28))]) (e1 := 1) (f := 40) hx hb dX6_become_34 hl (k := 1) rfl (by decide) g49614 (by decide) (fun _ => rfl) (fun r49615 ls hr49615 er49615 hl => ?_)
        refine lv_goto (tgt := 21) hx hb dX6_become_37 (by decide) ?_
        exact ih21 r49615 y21_kn1 u _ _ ls (show Rg 0 40 r49615 from rg_w hr49615 (by decide) (by decide)) g21_kn1 (show (0 ≤ x1.toInt → x1.toInt ≤ 40 → y21_kn1.toInt = x1.toInt) from by have y90 : y21_l3.toInt < (40 : Int32).toInt := (lz_lt _ _).mp (rg_nle c49612); have y91 : Rg 0 39 y21_l3 := g49614; have y92 : Rg 1 40 r49615 := hr49615; have y93 : Rg 0 12 l_s := p_s; have y94 : Rg 0 12 l_t := p_t; have y95 : Rg 0 12 l_i := p_i; have y96 : Rg 0 120 l_tp := p_tp; have y97 : Rg 0 40 l_n0 := p_n0; have y98 : Rg 0 40 y21_kn1 := g21_kn1; have y99 : Rg 0 40 l_n2 := p_n2; have y910 : Rg 0 40 l_n3 := p_n3; have y9c11 : (0 : Int32).toInt = 0 := (by decide); have y9c12 : (1 : Int32).toInt = 1 := (by decide); have y9c13 : (40 : Int32).toInt = 40 := (by decide); omega) hP hD hS (lv_sub (l' := [(0, .ref (a 28)), (3, .int r49615)]) hl [1, 0] rfl) (me_up hm21 er49615 (by decide))
  refine lv_aload_n hx hb dX6_become_0 rfl (lv_at hl 0 rfl) ?_
  refine lv_iload_n hx hb dX6_become_1 rfl (lv_at hl 1 rfl) ?_
  refine va_put (D := D) (ci := 6) (v := .int x0) (ty := .int) (C := RX6) (T := TX6) (N := 3) hx hb hts hin6 tyX6 tyX6_ok nmX6 hown hK hP hD hS 28 rfl rfl 1 (by decide) (hts (.fieldLink RX6 15 "MissedPoints$Sheet" "sort" "I") (by decide +kernel)) (fun _ h9 => h9) rfl (by decide +kernel) rfl rfl (Nat.le_of_ble_eq_true rfl) dX6_become_2 (fun H locs hP hD hS => ?_)
  have hP : va_P D cls (wX cI cS a na nc N (mkL l_s l_t l_i l_kp l_iz l_z l_tp l_o0 x0 l_o2 l_o3 l_n0 l_n1 l_n2 l_n3) u) H := hP
  have hD : va_D A (wX cI cS a na nc N (mkL l_s l_t l_i l_kp l_iz l_z l_tp l_o0 x0 l_o2 l_o3 l_n0 l_n1 l_n2 l_n3) u) := hD
  refine lv_aload_n hx hb dX6_become_5 rfl (lv_at hl 0 rfl) ?_
  refine lv_iconst (v := 0) hx hb dX6_become_6 (by decide) ?_
  refine lv_iload_n hx hb dX6_become_7 rfl (lv_at hl 2 rfl) ?_
  refine lv_bipush (v := 40) hx hb dX6_become_8 (by decide) ?_
  refine va_mmin hx hb (by rw [hml]; exact hl.1.symm) hown (hts (.methodLink RX6 19 Lib.Math.min.name) (by decide +kernel)) (hts (.static Lib.Math.min.name) (by decide +kernel)) (hts (.initialized "java/lang/Math") (by decide +kernel)) (hts (.code Lib.Math.min.name Lib.Math.min.code 2 (some .int)) (by decide +kernel)) (Nat.le_of_ble_eq_true rfl) (Nat.le_of_ble_eq_true rfl) (Nat.le_of_ble_eq_true rfl) (Nat.le_of_ble_eq_true rfl) dX6_become_10 ?_
  refine wk_topP (P := fun r => Rg (-2147483648) 40 r ∧ (r.toInt ≤ x1.toInt ∧ r.toInt ≤ (40 : Int32).toInt) ∧ (r.toInt = x1.toInt ∨ r.toInt = (40 : Int32).toInt)) ⟨wk_min (rg_any x1) (by decide : Rg 40 40 (40 : Int32)) (by decide), ⟨⟨wk_minE.1, wk_minE.2.1⟩, wk_minE.2.2⟩⟩ (fun r49616 hr49616 => ?_)
  refine va_mmax hx hb (by rw [hml]; exact hl.1.symm) hown (hts (.methodLink RX6 25 Lib.Math.max.name) (by decide +kernel)) (hts (.static Lib.Math.max.name) (by decide +kernel)) (hts (.initialized "java/lang/Math") (by decide +kernel)) (hts (.code Lib.Math.max.name Lib.Math.max.code 2 (some .int)) (by decide +kernel)) (Nat.le_of_ble_eq_true rfl) (Nat.le_of_ble_eq_true rfl) (Nat.le_of_ble_eq_true rfl) (Nat.le_of_ble_eq_true rfl) dX6_become_13 ?_
  refine wk_topP (P := fun r => Rg 0 40 r ∧ ((0 : Int32).toInt ≤ r.toInt ∧ r49616.toInt ≤ r.toInt) ∧ (r.toInt = (0 : Int32).toInt ∨ r.toInt = r49616.toInt)) ⟨wk_max (by decide : Rg 0 0 (0 : Int32)) hr49616.1 (by decide), ⟨⟨wk_maxE.1, wk_maxE.2.1⟩, wk_maxE.2.2⟩⟩ (fun r49617 hr49617 => ?_)
  refine va_put (D := D) (ci := 6) (v := .int r49617) (ty := .int) (C := RX6) (T := TX6) (N := 3) hx hb hts hin6 tyX6 tyX6_ok nmX6 hown hK hP hD hS 28 rfl rfl 2 (by decide) (hts (.fieldLink RX6 28 "MissedPoints$Sheet" "size" "I") (by decide +kernel)) (fun _ h9 => h9) rfl (by decide +kernel) rfl rfl (Nat.le_of_ble_eq_true rfl) dX6_become_16 (fun H locs hP hD hS => ?_)
  have hP : va_P D cls (wX cI cS a na nc N (mkL l_s l_t l_i l_kp l_iz l_z l_tp l_o0 x0 l_o2 l_o3 l_n0 r49617 l_n2 l_n3) u) H := hP
  have hD : va_D A (wX cI cS a na nc N (mkL l_s l_t l_i l_kp l_iz l_z l_tp l_o0 x0 l_o2 l_o3 l_n0 r49617 l_n2 l_n3) u) := hD
  refine lv_iconst (v := 0) hx hb dX6_become_19 (by decide) ?_
  refine lv_istore_n (lv' := [(3, .int 0), (0, .ref (a 28)), (1, .int x0), (2, .int x1)]) hx hb dX6_become_20 rfl hl (by decide) rfl (fun ls hl => ?_)
  exact lp21 41 (0 : Int32) r49617 u _ _ ls (by decide : Rg 0 40 (0 : Int32)) hr49617.1 (show (0 ≤ x1.toInt → x1.toInt ≤ 40 → r49617.toInt = x1.toInt) from by have y90 : Rg 0 12 l_s := p_s; have y91 : Rg 0 12 l_t := p_t; have y92 : Rg 0 12 l_i := p_i; have y93 : Rg 0 120 l_tp := p_tp; have y94 : Rg 0 40 l_n0 := p_n0; have y95 : Rg 0 40 r49617 := hr49617.1; have y96 : Rg 0 40 l_n2 := p_n2; have y97 : Rg 0 40 l_n3 := p_n3; have y9c8 : (0 : Int32).toInt = 0 := (by decide); have y9c9 : (1 : Int32).toInt = 1 := (by decide); have y9c10 : (40 : Int32).toInt = 40 := (by decide); omega) hP hD hS (lv_sub (l' := [(0, .ref (a 28)), (3, .int 0)]) hl [1, 0] rfl) (me_i (by decide : Rg 0 40 (0 : Int32)) (by decide))
set_option maxHeartbeats 4000000 in
set_option maxRecDepth 100000 in
theorem k_X9_writeTo_1 (l : Launch) (D : va_G) (cI cS : ClassId) (sz : Nat) (a : Nat → Nat) (na nc N : Nat) (l_s l_t l_i l_kp l_iz l_z l_tp l_o0 l_o1 l_o2 l_o3 l_n0 l_n1 l_n2 l_n3 : Int32) (u0 : SU) (hL : TyX (mkL l_s l_t l_i l_kp l_iz l_z l_tp l_o0 l_o1 l_o2 l_o3 l_n0 l_n1 l_n2 l_n3)) (hN : N = 0 ∨ N = 24576) (x0 : Int32) : Met l yX9_writeTo wsX9_writeTo ({ frames := 2, cells := 0, slots := 0, locals := 80 }) (PQ D cI cS (wX cI cS a na nc N (mkL l_s l_t l_i l_kp l_iz l_z l_tp l_o0 l_o1 l_o2 l_o3 l_n0 l_n1 l_n2 l_n3) u0) sz [.ref (a 34), .ref (a 28), .int x0]) (QE (S := Int32 × Int32 × SU) D (wX cI cS a na nc N (mkL l_s l_t l_i l_kp l_iz l_z l_tp l_o0 l_o1 l_o2 l_o3 l_n0 l_n1 l_n2 l_n3) u0) (fun q => wX cI cS a na nc N (mkL l_s l_t l_i l_kp l_iz l_z l_tp l_o0 q.1 l_o2 l_o3 l_n0 q.2.1 l_n2 l_n3) q.2.2) sz (fun q => Rg 0 40 q.2.1 ∧ (q.1.toInt = x0.toInt ∧ q.2.1.toInt = l_s.toInt))) 0 0 (va_A (wX cI cS a na nc N (mkL l_s l_t l_i l_kp l_iz l_z l_tp l_o0 l_o1 l_o2 l_o3 l_n0 l_n1 l_n2 l_n3) u0) sz) := by
  refine Met.ofW (cc := cX9_writeTo) (maxL := 4) (ret := none) (by decide) rfl ?_
  intro p e s m args below meth c s₁ B hml hv
  obtain ⟨rfl, hsz, hP, hKK, hD0⟩ := hv
  have hx := B.exec
  have hb := B.bytes
  have hr := B.returns
  have hts := atoms_spec (ws := wsX9_writeTo) B.pre
  have hown : s.vm.findClass RX9 = some m.cls := findClass_of_methodNamed B.named
  have hlocks := B.notSynchronized
  have hK := hKK.1
  have hin2 : ∀ w ∈ wsX20, w ∈ wsX9_writeTo := by decide +kernel
  have hin9 : ∀ w ∈ wsX90, w ∈ wsX9_writeTo := by decide +kernel
  subst hsz
  have hD := hD0.self (sz := s.heap.size)
  obtain ⟨A, hAe⟩ : ∃ A, A = va_A (wX cI cS a na nc N (mkL l_s l_t l_i l_kp l_iz l_z l_tp l_o0 l_o1 l_o2 l_o3 l_n0 l_n1 l_n2 l_n3) u0) s.heap.size := ⟨_, rfl⟩
  rw [← hAe] at hD
  have hA : ∀ q : Nat, s.heap.size ≤ q → A q := fun q h => by rw [hAe]; exact Or.inr h
  have hS : va_S A s.heap s.heap [] := va_S.rf
  have hl := lv_entry ([.ref (a 34), .ref (a 28), .int x0]) (n := 4) (Nat.le_of_ble_eq_true rfl)
  rw [lg_entry_eq]
  generalize (lg_sl ([.ref (a 34), .ref (a 28), .int x0]) ++ List.replicate (4 - (lg_sl ([.ref (a 34), .ref (a 28), .int x0])).length) Slot.unset).toArray = ls at hl ⊢
  have hl : lv_has ls 4 [(0, .ref (a 34)), (1, .ref (a 28)), (2, .int x0)] := hl
  obtain ⟨u, hu9⟩ : ∃ u : SU, u = u0 := ⟨_, rfl⟩
  rw [← hu9] at hP hD
  have p_s : Rg 0 12 l_s := hL.1
  have p_t : Rg 0 12 l_t := hL.2.1
  have p_i : Rg 0 12 l_i := hL.2.2.1
  have p_tp : Rg 0 120 l_tp := hL.2.2.2.1
  have p_n0 : Rg 0 40 l_n0 := hL.2.2.2.2.1
  have p_n1 : Rg 0 40 l_n1 := hL.2.2.2.2.2.1
  have p_n2 : Rg 0 40 l_n2 := hL.2.2.2.2.2.2.1
  have p_n3 : Rg 0 40 l_n3 := hL.2.2.2.2.2.2.2
  have lp14 : ∀ (n14 : Nat) (y14_l3 : Int32) (y14_ko1 : Int32) (y14_kn1 : Int32) (u : SU) (H : Heap) (locs : List Loc) (ls : Array Slot), Rg 0 12 y14_l3 → Rg 0 40 y14_kn1 → (y14_ko1.toInt = x0.toInt ∧ y14_kn1.toInt = l_s.toInt) → va_P D cls (wX cI cS a na nc N (mkL l_s l_t l_i l_kp l_iz l_z l_tp l_o0 y14_ko1 l_o2 l_o3 l_n0 y14_kn1 l_n2 l_n3) u) H → va_D A (wX cI cS a na nc N (mkL l_s l_t l_i l_kp l_iz l_z l_tp l_o0 y14_ko1 l_o2 l_o3 l_n0 y14_kn1 l_n2 l_n3) u) → va_S A s.heap H locs → lv_has ls 4 [(0, .ref (a 34)), (1, .ref (a 28)), (3, .int y14_l3)] → 12 - y14_l3.toInt < (n14 : Int) → W p l e (headSpec wsX9_writeTo ({ frames := 2, cells := 0, slots := 0, locals := 80 })).room s m ([.ref (a 34), .ref (a 28), .int x0]).toArray below meth c H locs 0 0 (MQ below (QE (S := Int32 × Int32 × SU) D (wX cI cS a na nc N (mkL l_s l_t l_i l_kp l_iz l_z l_tp l_o0 l_o1 l_o2 l_o3 l_n0 l_n1 l_n2 l_n3) u0) (fun q => wX cI cS a na nc N (mkL l_s l_t l_i l_kp l_iz l_z l_tp l_o0 q.1 l_o2 l_o3 l_n0 q.2.1 l_n2 l_n3) q.2.2) s.heap.size (fun q => Rg 0 40 q.2.1 ∧ (q.1.toInt = x0.toInt ∧ q.2.1.toInt = l_s.toInt))) ([.ref (a 34), .ref (a 28), .int x0]).toArray s 0 0 (va_A (wX cI cS a na nc N (mkL l_s l_t l_i l_kp l_iz l_z l_tp l_o0 l_o1 l_o2 l_o3 l_n0 l_n1 l_n2 l_n3) u0) s.heap.size)) (F0 m 14 ls []) := by
    intro n14
    induction n14 with
    | zero =>
      intro y14_l3 y14_ko1 y14_kn1 u H locs ls g14_l3 g14_kn1 x14_0 hP hD hS hl hm14
      exact absurd rfl (me_z g14_l3 hm14)
    | succ n14 ih14 =>
      intro y14_l3 y14_ko1 y14_kn1 u H locs ls g14_l3 g14_kn1 x14_0 hP hD hS hl hm14
      refine lv_iload_n hx hb dX9_writeTo_14 rfl (lv_at hl 2 rfl) ?_
      refine lv_aload_n hx hb dX9_writeTo_15 rfl (lv_at hl 0 rfl) ?_
      refine va_get (D := D) (ci := 9) (v := .ref (a 1)) (C := RX9) (T := TX9) (N := 6) hx hb hts hin9 hown hK hP 34 rfl rfl 0 (by decide) (hts (.fieldLink RX9 21 "MissedPoints$Told" "net" "LMissedPoints$Net;") (by decide +kernel)) (fun _ h9 => h9) rfl dX9_writeTo_16 ?_
      refine va_getN (D := D) (ci := 2) (v := .int l_s) (C := RX2) (T := TX2) (N := 3) hx hb hts hin2 hown hK hP 1 rfl rfl 1 (by decide) (va_Nw.use rfl hKK.2.2.2.2.2.2.2.2.2.2.2.2.2.2.2.2.1) (fun _ h9 => h9) rfl dX9_writeTo_19 ?_
      refine lv_icmp_ge (tgt := 42) hx hb dX9_writeTo_22 (by decide) (fun c49699 => ?_) (fun c49699 => ?_)
      · subst hAe
        exact W.vret hx hb hr (fun t ht hW => ⟨⟨(y14_ko1, y14_kn1, u), rfl, ⟨g14_kn1, (show y14_ko1.toInt = x0.toInt ∧ y14_kn1.toInt = l_s.toInt from by have y90 : l_s.toInt ≤ y14_l3.toInt := (lz_le _ _).mp c49699; have y91 : Rg 0 12 y14_l3 := g14_l3; have y92 : Rg 0 12 l_s := p_s; have y93 : Rg 0 12 l_t := p_t; have y94 : Rg 0 12 l_i := p_i; have y95 : Rg 0 120 l_tp := p_tp; have y96 : Rg 0 40 l_n0 := p_n0; have y97 : Rg 0 40 y14_kn1 := g14_kn1; have y98 : Rg 0 40 l_n2 := p_n2; have y99 : Rg 0 40 l_n3 := p_n3; have y9c10 : (0 : Int32).toInt = 0 := (by decide); have y9c11 : (1 : Int32).toInt = 1 := (by decide); omega)⟩, by rw [ht]; exact hP, hD⟩, hS.F ht⟩) hS.2.2 dX9_writeTo_42
      · have g49700 : Rg 1 12 l_s := rg_ltr g14_l3 p_s (rg_nle c49699) (by decide)
        have g49701 : Rg 0 11 y14_l3 := rg_ltl g14_l3 p_s (rg_nle c49699) (by decide)
        refine lv_aload_n hx hb dX9_writeTo_25 rfl (lv_at hl 1 rfl) ?_
        refine lv_iload_n hx hb dX9_writeTo_26 rfl (lv_at hl 2 rfl) ?_
        refine lv_aload_n hx hb dX9_writeTo_27 rfl (lv_at hl 0 rfl) ?_
        refine va_get (D := D) (ci := 9) (v := .ref (a 35)) (C := RX9) (T := TX9) (N := 6) hx hb hts hin9 hown hK hP 34 rfl rfl 2 (by decide) (hts (.fieldLink RX9 9 "MissedPoints$Told" "mates" "[I") (by decide +kernel)) (fun _ h9 => h9) rfl dX9_writeTo_28 ?_
        refine lv_iload_n hx hb dX9_writeTo_31 rfl (lv_at hl 2 rfl) ?_
        refine wk_aldA hx hb hK hP 35 0 rfl rfl (rg_in g49701 (by decide) (by decide)) dX9_writeTo_32 (fun r49702 => ?_)
        refine wk_qv (wX cI cS a na nc N (mkL l_s l_t l_i l_kp l_iz l_z l_tp l_o0 y14_ko1 l_o2 l_o3 l_n0 y14_kn1 l_n2 l_n3)) u (As := [.int y14_l3, .int r49702]) (rest := []) ⟨hx, hb, hml, hown, hts⟩ (k_X6_store l D cI cS _ a na nc N (mkL l_s l_t l_i l_kp l_iz l_z l_tp l_o0 y14_ko1 l_o2 l_o3 l_n0 y14_kn1 l_n2 l_n3) u (show TyX (mkL l_s l_t l_i l_kp l_iz l_z l_tp l_o0 y14_ko1 l_o2 l_o3 l_n0 y14_kn1 l_n2 l_n3) from ⟨(show Rg 0 12 l_s from rg_w g49700 (by decide) (by decide)), p_t, p_i, p_tp, p_n0, g14_kn1, p_n2, p_n3⟩) hN 1 (by decide) y14_l3 r49702) hKK hP hD hS hA 28 (ci := 6) rfl rfl (cwV 2 hts gX9_writeTo_X6_store rfl rfl rfl (by decide +kernel) ⟨Nat.le_of_ble_eq_true rfl, Nat.le_of_ble_eq_true rfl⟩) rfl hl.1 rfl (Nat.le_of_ble_eq_true rfl) dX9_writeTo_33 ⟨Nat.le_of_ble_eq_true rfl, Nat.le_of_ble_eq_true rfl⟩ (fun u H locs hr49703 hP hD hS => ?_)
        refine wk_iinc (lv' := fun r => [(3, .int r), (0, .ref (a 34)), (1, .ref (a 28))]) (e1 := 1) (f := 12) hx hb dX9_writeTo_36 hl (k := 2) rfl (by decide) g49701 (by decide) (fun _ => rfl) (fun r49704 ls hr49704 er49704 hl => ?_)
        refine lv_goto (tgt := 14) hx hb dX9_writeTo_39 (by decide) ?_
        exact ih14 r49704 y14_ko1 y14_kn1 u _ _ ls (show Rg 0 12 r49704 from rg_w hr49704 (by decide) (by decide)) g14_kn1 (show (y14_ko1.toInt = x0.toInt ∧ y14_kn1.toInt = l_s.toInt) from by have y90 : y14_l3.toInt < l_s.toInt := (lz_lt _ _).mp (rg_nle c49699); have y91 : Rg 1 12 l_s := g49700; have y92 : Rg 0 11 y14_l3 := g49701; have y93 : Rg 1 12 r49704 := hr49704; have y94 : Rg 1 12 l_s := g49700; have y95 : Rg 0 12 l_t := p_t; have y96 : Rg 0 12 l_i := p_i; have y97 : Rg 0 120 l_tp := p_tp; have y98 : Rg 0 40 l_n0 := p_n0; have y99 : Rg 0 40 y14_kn1 := g14_kn1; have y910 : Rg 0 40 l_n2 := p_n2; have y911 : Rg 0 40 l_n3 := p_n3; have y9c12 : (0 : Int32).toInt = 0 := (by decide); have y9c13 : (1 : Int32).toInt = 1 := (by decide); omega) hP hD hS (lv_sub (l' := [(0, .ref (a 34)), (1, .ref (a 28)), (3, .int r49704)]) hl [1, 2, 0] rfl) (me_up hm14 er49704 (by decide))
  refine lv_aload_n hx hb dX9_writeTo_0 rfl (lv_at hl 1 rfl) ?_
  refine lv_iload_n hx hb dX9_writeTo_1 rfl (lv_at hl 2 rfl) ?_
  refine lv_aload_n hx hb dX9_writeTo_2 rfl (lv_at hl 0 rfl) ?_
  refine va_get (D := D) (ci := 9) (v := .ref (a 1)) (C := RX9) (T := TX9) (N := 6) hx hb hts hin9 hown hK hP 34 rfl rfl 0 (by decide) (hts (.fieldLink RX9 21 "MissedPoints$Told" "net" "LMissedPoints$Net;") (by decide +kernel)) (fun _ h9 => h9) rfl dX9_writeTo_3 ?_
  refine va_getN (D := D) (ci := 2) (v := .int l_s) (C := RX2) (T := TX2) (N := 3) hx hb hts hin2 hown hK hP 1 rfl rfl 1 (by decide) (va_Nw.use rfl hKK.2.2.2.2.2.2.2.2.2.2.2.2.2.2.2.2.1) (fun _ h9 => h9) rfl dX9_writeTo_6 ?_
  refine wk_qv (S := Int32 × Int32 × SU) (fun q => wX cI cS a na nc N (mkL l_s l_t l_i l_kp l_iz l_z l_tp l_o0 q.1 l_o2 l_o3 l_n0 q.2.1 l_n2 l_n3) q.2.2) (l_o1, l_n1, u) (As := [.int x0, .int l_s]) (rest := []) ⟨hx, hb, hml, hown, hts⟩ (k_X6_become_1 l D cI cS _ a na nc N l_s l_t l_i l_kp l_iz l_z l_tp l_o0 l_o1 l_o2 l_o3 l_n0 l_n1 l_n2 l_n3 u (show TyX (mkL l_s l_t l_i l_kp l_iz l_z l_tp l_o0 l_o1 l_o2 l_o3 l_n0 l_n1 l_n2 l_n3) from ⟨p_s, p_t, p_i, p_tp, p_n0, p_n1, p_n2, p_n3⟩) hN x0 l_s) hKK hP hD hS hA 28 (ci := 6) rfl rfl (cwV 2 hts gX9_writeTo_X6_become rfl rfl rfl (by decide +kernel) ⟨Nat.le_of_ble_eq_true rfl, Nat.le_of_ble_eq_true rfl⟩) rfl hl.1 rfl (Nat.le_of_ble_eq_true rfl) dX9_writeTo_9 ⟨Nat.le_of_ble_eq_true rfl, Nat.le_of_ble_eq_true rfl⟩ (fun q9 H locs hr49705 hP hD hS => ?_)
  obtain ⟨r49706, r49707, u⟩ := q9
  have hr49705 : Rg 0 40 r49707 ∧ (r49706.toInt = x0.toInt ∧ (0 ≤ l_s.toInt → l_s.toInt ≤ 40 → r49707.toInt = l_s.toInt)) := hr49705
  have hP : va_P D cls (wX cI cS a na nc N (mkL l_s l_t l_i l_kp l_iz l_z l_tp l_o0 r49706 l_o2 l_o3 l_n0 r49707 l_n2 l_n3) u) H := hP
  have hD : va_D A (wX cI cS a na nc N (mkL l_s l_t l_i l_kp l_iz l_z l_tp l_o0 r49706 l_o2 l_o3 l_n0 r49707 l_n2 l_n3) u) := hD
  have kr49705_0 := hr49705.2
  refine lv_iconst (v := 0) hx hb dX9_writeTo_12 (by decide) ?_
  refine lv_istore_n (lv' := [(3, .int 0), (0, .ref (a 34)), (1, .ref (a 28)), (2, .int x0)]) hx hb dX9_writeTo_13 rfl hl (by decide) rfl (fun ls hl => ?_)
  exact lp14 13 (0 : Int32) r49706 r49707 u _ _ ls (by decide : Rg 0 12 (0 : Int32)) hr49705.1 (show (r49706.toInt = x0.toInt ∧ r49707.toInt = l_s.toInt) from by have y90 : Rg 0 12 l_s := p_s; have y91 : Rg 0 12 l_t := p_t; have y92 : Rg 0 12 l_i := p_i; have y93 : Rg 0 120 l_tp := p_tp; have y94 : Rg 0 40 l_n0 := p_n0; have y95 : Rg 0 40 r49707 := hr49705.1; have y96 : Rg 0 40 l_n2 := p_n2; have y97 : Rg 0 40 l_n3 := p_n3; have y9c8 : (0 : Int32).toInt = 0 := (by decide); have y9c9 : (1 : Int32).toInt = 1 := (by decide); omega) hP hD hS (lv_sub (l' := [(0, .ref (a 34)), (1, .ref (a 28)), (3, .int 0)]) hl [1, 2, 0] rfl) (me_i (by decide : Rg 0 12 (0 : Int32)) (by decide))
set_option maxHeartbeats 4000000 in
set_option maxRecDepth 100000 in
theorem k_X6_become_2 (l : Launch) (D : va_G) (cI cS : ClassId) (sz : Nat) (a : Nat → Nat) (na nc N : Nat) (l_s l_t l_i l_kp l_iz l_z l_tp l_o0 l_o1 l_o2 l_o3 l_n0 l_n1 l_n2 l_n3 : Int32) (u0 : SU) (hL : TyX (mkL l_s l_t l_i l_kp l_iz l_z l_tp l_o0 l_o1 l_o2 l_o3 l_n0 l_n1 l_n2 l_n3)) (hN : N = 0 ∨ N = 24576) (x0 x1 : Int32) : Met l yX6_become wsX6_become ({ frames := 1, cells := 0, slots := 0, locals := 40 }) (PQ D cI cS (wX cI cS a na nc N (mkL l_s l_t l_i l_kp l_iz l_z l_tp l_o0 l_o1 l_o2 l_o3 l_n0 l_n1 l_n2 l_n3) u0) sz [.ref (a 30), .int x0, .int x1]) (QE (S := Int32 × Int32 × SU) D (wX cI cS a na nc N (mkL l_s l_t l_i l_kp l_iz l_z l_tp l_o0 l_o1 l_o2 l_o3 l_n0 l_n1 l_n2 l_n3) u0) (fun q => wX cI cS a na nc N (mkL l_s l_t l_i l_kp l_iz l_z l_tp l_o0 l_o1 q.1 l_o3 l_n0 l_n1 q.2.1 l_n3) q.2.2) sz (fun q => Rg 0 40 q.2.1 ∧ (q.1.toInt = x0.toInt ∧ (0 ≤ x1.toInt → x1.toInt ≤ 40 → q.2.1.toInt = x1.toInt)))) 0 0 (va_A (wX cI cS a na nc N (mkL l_s l_t l_i l_kp l_iz l_z l_tp l_o0 l_o1 l_o2 l_o3 l_n0 l_n1 l_n2 l_n3) u0) sz) := by
  refine Met.ofW (cc := cX6_become) (maxL := 4) (ret := none) (by decide) rfl ?_
  intro p e s m args below meth c s₁ B hml hv
  obtain ⟨rfl, hsz, hP, hKK, hD0⟩ := hv
  have hx := B.exec
  have hb := B.bytes
  have hr := B.returns
  have hts := atoms_spec (ws := wsX6_become) B.pre
  have hown : s.vm.findClass RX6 = some m.cls := findClass_of_methodNamed B.named
  have hlocks := B.notSynchronized
  have hK := hKK.1
  have hin6 : ∀ w ∈ wsX60, w ∈ wsX6_become := by decide +kernel
  subst hsz
  have hD := hD0.self (sz := s.heap.size)
  obtain ⟨A, hAe⟩ : ∃ A, A = va_A (wX cI cS a na nc N (mkL l_s l_t l_i l_kp l_iz l_z l_tp l_o0 l_o1 l_o2 l_o3 l_n0 l_n1 l_n2 l_n3) u0) s.heap.size := ⟨_, rfl⟩
  rw [← hAe] at hD
  have hA : ∀ q : Nat, s.heap.size ≤ q → A q := fun q h => by rw [hAe]; exact Or.inr h
  have hS : va_S A s.heap s.heap [] := va_S.rf
  have hl := lv_entry ([.ref (a 30), .int x0, .int x1]) (n := 4) (Nat.le_of_ble_eq_true rfl)
  rw [lg_entry_eq]
  generalize (lg_sl ([.ref (a 30), .int x0, .int x1]) ++ List.replicate (4 - (lg_sl ([.ref (a 30), .int x0, .int x1])).length) Slot.unset).toArray = ls at hl ⊢
  have hl : lv_has ls 4 [(0, .ref (a 30)), (1, .int x0), (2, .int x1)] := hl
  obtain ⟨u, hu9⟩ : ∃ u : SU, u = u0 := ⟨_, rfl⟩
  rw [← hu9] at hP hD
  have p_s : Rg 0 12 l_s := hL.1
  have p_t : Rg 0 12 l_t := hL.2.1
  have p_i : Rg 0 12 l_i := hL.2.2.1
  have p_tp : Rg 0 120 l_tp := hL.2.2.2.1
  have p_n0 : Rg 0 40 l_n0 := hL.2.2.2.2.1
  have p_n1 : Rg 0 40 l_n1 := hL.2.2.2.2.2.1
  have p_n2 : Rg 0 40 l_n2 := hL.2.2.2.2.2.2.1
  have p_n3 : Rg 0 40 l_n3 := hL.2.2.2.2.2.2.2
  have lp21 : ∀ (n21 : Nat) (y21_l3 : Int32) (y21_kn2 : Int32) (u : SU) (H : Heap) (locs : List Loc) (ls : Array Slot), Rg 0 40 y21_l3 → Rg 0 40 y21_kn2 → (0 ≤ x1.toInt → x1.toInt ≤ 40 → y21_kn2.toInt = x1.toInt) → va_P D cls (wX cI cS a na nc N (mkL l_s l_t l_i l_kp l_iz l_z l_tp l_o0 l_o1 x0 l_o3 l_n0 l_n1 y21_kn2 l_n3) u) H → va_D A (wX cI cS a na nc N (mkL l_s l_t l_i l_kp l_iz l_z l_tp l_o0 l_o1 x0 l_o3 l_n0 l_n1 y21_kn2 l_n3) u) → va_S A s.heap H locs → lv_has ls 4 [(0, .ref (a 30)), (3, .int y21_l3)] → 40 - y21_l3.toInt < (n21 : Int) → W p l e (headSpec wsX6_become ({ frames := 1, cells := 0, slots := 0, locals := 40 })).room s m ([.ref (a 30), .int x0, .int x1]).toArray below meth c H locs 0 0 (MQ below (QE (S := Int32 × Int32 × SU) D (wX cI cS a na nc N (mkL l_s l_t l_i l_kp l_iz l_z l_tp l_o0 l_o1 l_o2 l_o3 l_n0 l_n1 l_n2 l_n3) u0) (fun q => wX cI cS a na nc N (mkL l_s l_t l_i l_kp l_iz l_z l_tp l_o0 l_o1 q.1 l_o3 l_n0 l_n1 q.2.1 l_n3) q.2.2) s.heap.size (fun q => Rg 0 40 q.2.1 ∧ (q.1.toInt = x0.toInt ∧ (0 ≤ x1.toInt → x1.toInt ≤ 40 → q.2.1.toInt = x1.toInt)))) ([.ref (a 30), .int x0, .int x1]).toArray s 0 0 (va_A (wX cI cS a na nc N (mkL l_s l_t l_i l_kp l_iz l_z l_tp l_o0 l_o1 l_o2 l_o3 l_n0 l_n1 l_n2 l_n3) u0) s.heap.size)) (F0 m 21 ls []) := by
    intro n21
    induction n21 with
    | zero =>
      intro y21_l3 y21_kn2 u H locs ls g21_l3 g21_kn2 x21_0 hP hD hS hl hm21
      exact absurd rfl (me_z g21_l3 hm21)
    | succ n21 ih21 =>
      intro y21_l3 y21_kn2 u H locs ls g21_l3 g21_kn2 x21_0 hP hD hS hl hm21
      refine lv_iload_n hx hb dX6_become_21 rfl (lv_at hl 1 rfl) ?_
      refine lv_bipush (v := 40) hx hb dX6_become_22 (by decide) ?_
      refine lv_icmp_ge (tgt := 40) hx hb dX6_become_24 (by decide) (fun c49766 => ?_) (fun c49766 => ?_)
      · have g49767 : Rg 40 40 y21_l3 := rg_ler (by decide : Rg 40 40 (40 : Int32)) g21_l3 c49766 (by decide)
        subst hAe
        exact W.vret hx hb hr (fun t ht hW => ⟨⟨(x0, y21_kn2, u), rfl, ⟨g21_kn2, (show x0.toInt = x0.toInt ∧ (0 ≤ x1.toInt → x1.toInt ≤ 40 → y21_kn2.toInt = x1.toInt) from by have y90 : (40 : Int32).toInt ≤ y21_l3.toInt := (lz_le _ _).mp c49766; have y91 : Rg 40 40 y21_l3 := g49767; have y92 : Rg 40 40 y21_l3 := g49767; have y93 : Rg 0 12 l_s := p_s; have y94 : Rg 0 12 l_t := p_t; have y95 : Rg 0 12 l_i := p_i; have y96 : Rg 0 120 l_tp := p_tp; have y97 : Rg 0 40 l_n0 := p_n0; have y98 : Rg 0 40 l_n1 := p_n1; have y99 : Rg 0 40 y21_kn2 := g21_kn2; have y910 : Rg 0 40 l_n3 := p_n3; have y9c11 : (0 : Int32).toInt = 0 := (by decide); have y9c12 : (1 : Int32).toInt = 1 := (by decide); have y9c13 : (40 : Int32).toInt = 40 := (by decide); omega)⟩, by rw [ht]; exact hP, hD⟩, hS.F ht⟩) hS.2.2 dX6_become_40
      · have g49768 : Rg 0 39 y21_l3 := rg_ltl g21_l3 (by decide : Rg 40 40 (40 : Int32)) (rg_nle c49766) (by decide)
        refine lv_aload_n hx hb dX6_become_27 rfl (lv_at hl 0 rfl) ?_
        refine va_get (D := D) (ci := 6) (v := .ref (a 31)) (C := RX6) (T := TX6) (N := 3) hx hb hts hin6 hown hK hP 30 rfl rfl 0 (by decide) (hts (.fieldLink RX6 9 "MissedPoints$Sheet" "numbers" "[I") (by decide +kernel)) (fun _ h9 => h9) rfl dX6_become_28 ?_
        refine lv_iload_n hx hb dX6_become_31 rfl (lv_at hl 1 rfl) ?_
        refine lv_iconst (v := 0) hx hb dX6_become_32 (by decide) ?_
        refine ks_ast hx hb hK hP hD hS rfl (k := 31) rfl sx_31 (rg_in g49768 (by decide) (by decide)) dX6_become_33 (fun u H locs hP hD hS => ?_)
        refine wk_iinc (lv' := fun r => [(3, .int r), (0, .ref (a 30))]) (e1 := 1) (f := 40) hx hb dX6_become_34 hl (k := 1) rfl (by decide) g49768 (by decide) (fun _ => rfl) (fun r49769 ls hr49769 er49769 hl => ?_)
        refine lv_goto (tgt := 21) hx hb dX6_become_37 (by decide) ?_
        exact ih21 r49769 y21_kn2 u _ _ ls (show Rg 0 40 r49769 from rg_w hr49769 (by decide) (by decide)) g21_kn2 (show (0 ≤ x1.toInt → x1.toInt ≤ 40 → y21_kn2.toInt = x1.toInt) from by have y90 : y21_l3.toInt < (40 : Int32).toInt := (lz_lt _ _).mp (rg_nle c49766); have y91 : Rg 0 39 y21_l3 := g49768; have y92 : Rg 1 40 r49769 := hr49769; have y93 : Rg 0 12 l_s := p_s; have y94 : Rg 0 12 l_t := p_t; have y95 : Rg 0 12 l_i := p_i; have y96 : Rg 0 120 l_tp := p_tp; have y97 : Rg 0 40 l_n0 := p_n0; have y98 : Rg 0 40 l_n1 := p_n1; have y99 : Rg 0 40 y21_kn2 := g21_kn2; have y910 : Rg 0 40 l_n3 := p_n3; have y9c11 : (0 : Int32).toInt = 0 := (by decide); have y9c12 : (1 : Int32).toInt = 1 := (by decide); have y9c13 : (40 : Int32).toInt = 40 := (by decide); omega) hP hD hS (lv_sub (l' := [(0, .ref (a 30)), (3, .int r49769)]) hl [1, 0] rfl) (me_up hm21 er49769 (by decide))
  refine lv_aload_n hx hb dX6_become_0 rfl (lv_at hl 0 rfl) ?_
  refine lv_iload_n hx hb dX6_become_1 rfl (lv_at hl 1 rfl) ?_
  refine va_put (D := D) (ci := 6) (v := .int x0) (ty := .int) (C := RX6) (T := TX6) (N := 3) hx hb hts hin6 tyX6 tyX6_ok nmX6 hown hK hP hD hS 30 rfl rfl 1 (by decide) (hts (.fieldLink RX6 15 "MissedPoints$Sheet" "sort" "I") (by decide +kernel)) (fun _ h9 => h9) rfl (by decide +kernel) rfl rfl (Nat.le_of_ble_eq_true rfl) dX6_become_2 (fun H locs hP hD hS => ?_)
  have hP : va_P D cls (wX cI cS a na nc N (mkL l_s l_t l_i l_kp l_iz l_z l_tp l_o0 l_o1 x0 l_o3 l_n0 l_n1 l_n2 l_n3) u) H := hP
  have hD : va_D A (wX cI cS a na nc N (mkL l_s l_t l_i l_kp l_iz l_z l_tp l_o0 l_o1 x0 l_o3 l_n0 l_n1 l_n2 l_n3) u) := hD
  refine lv_aload_n hx hb dX6_become_5 rfl (lv_at hl 0 rfl) ?_
  refine lv_iconst (v := 0) hx hb dX6_become_6 (by decide) ?_
  refine lv_iload_n hx hb dX6_become_7 rfl (lv_at hl 2 rfl) ?_
  refine lv_bipush (v := 40) hx hb dX6_become_8 (by decide) ?_
  refine va_mmin hx hb (by rw [hml]; exact hl.1.symm) hown (hts (.methodLink RX6 19 Lib.Math.min.name) (by decide +kernel)) (hts (.static Lib.Math.min.name) (by decide +kernel)) (hts (.initialized "java/lang/Math") (by decide +kernel)) (hts (.code Lib.Math.min.name Lib.Math.min.code 2 (some .int)) (by decide +kernel)) (Nat.le_of_ble_eq_true rfl) (Nat.le_of_ble_eq_true rfl) (Nat.le_of_ble_eq_true rfl) (Nat.le_of_ble_eq_true rfl) dX6_become_10 ?_
  refine wk_topP (P := fun r => Rg (-2147483648) 40 r ∧ (r.toInt ≤ x1.toInt ∧ r.toInt ≤ (40 : Int32).toInt) ∧ (r.toInt = x1.toInt ∨ r.toInt = (40 : Int32).toInt)) ⟨wk_min (rg_any x1) (by decide : Rg 40 40 (40 : Int32)) (by decide), ⟨⟨wk_minE.1, wk_minE.2.1⟩, wk_minE.2.2⟩⟩ (fun r49770 hr49770 => ?_)
  refine va_mmax hx hb (by rw [hml]; exact hl.1.symm) hown (hts (.methodLink RX6 25 Lib.Math.max.name) (by decide +kernel)) (hts (.static Lib.Math.max.name) (by decide +kernel)) (hts (.initialized "java/lang/Math") (by decide +kernel)) (hts (.code Lib.Math.max.name Lib.Math.max.code 2 (some .int)) (by decide +kernel)) (Nat.le_of_ble_eq_true rfl) (Nat.le_of_ble_eq_true rfl) (Nat.le_of_ble_eq_true rfl) (Nat.le_of_ble_eq_true rfl) dX6_become_13 ?_
  refine wk_topP (P := fun r => Rg 0 40 r ∧ ((0 : Int32).toInt ≤ r.toInt ∧ r49770.toInt ≤ r.toInt) ∧ (r.toInt = (0 : Int32).toInt ∨ r.toInt = r49770.toInt)) ⟨wk_max (by decide : Rg 0 0 (0 : Int32)) hr49770.1 (by decide), ⟨⟨wk_maxE.1, wk_maxE.2.1⟩, wk_maxE.2.2⟩⟩ (fun r49771 hr49771 => ?_)
  refine va_put (D := D) (ci := 6) (v := .int r49771) (ty := .int) (C := RX6) (T := TX6) (N := 3) hx hb hts hin6 tyX6 tyX6_ok nmX6 hown hK hP hD hS 30 rfl rfl 2 (by decide) (hts (.fieldLink RX6 28 "MissedPoints$Sheet" "size" "I") (by decide +kernel)) (fun _ h9 => h9) rfl (by decide +kernel) rfl rfl (Nat.le_of_ble_eq_true rfl) dX6_become_16 (fun H locs hP hD hS => ?_)
  have hP : va_P D cls (wX cI cS a na nc N (mkL l_s l_t l_i l_kp l_iz l_z l_tp l_o0 l_o1 x0 l_o3 l_n0 l_n1 r49771 l_n3) u) H := hP
  have hD : va_D A (wX cI cS a na nc N (mkL l_s l_t l_i l_kp l_iz l_z l_tp l_o0 l_o1 x0 l_o3 l_n0 l_n1 r49771 l_n3) u) := hD
  refine lv_iconst (v := 0) hx hb dX6_become_19 (by decide) ?_
  refine lv_istore_n (lv' := [(3, .int 0), (0, .ref (a 30)), (1, .int x0), (2, .int x1)]) hx hb dX6_become_20 rfl hl (by decide) rfl (fun ls hl => ?_)
  exact lp21 41 (0 : Int32) r49771 u _ _ ls (by decide : Rg 0 40 (0 : Int32)) hr49771.1 (show (0 ≤ x1.toInt → x1.toInt ≤ 40 → r49771.toInt = x1.toInt) from by have y90 : Rg 0 12 l_s := p_s; have y91 : Rg 0 12 l_t := p_t; have y92 : Rg 0 12 l_i := p_i; have y93 : Rg 0 120 l_tp := p_tp; have y94 : Rg 0 40 l_n0 := p_n0; have y95 : Rg 0 40 l_n1 := p_n1; have y96 : Rg 0 40 r49771 := hr49771.1; have y97 : Rg 0 40 l_n3 := p_n3; have y9c8 : (0 : Int32).toInt = 0 := (by decide); have y9c9 : (1 : Int32).toInt = 1 := (by decide); have y9c10 : (40 : Int32).toInt = 40 := (by decide); omega) hP hD hS (lv_sub (l' := [(0, .ref (a 30)), (3, .int 0)]) hl [1, 0] rfl) (me_i (by decide : Rg 0 40 (0 : Int32)) (by decide))
set_option maxHeartbeats 4000000 in
set_option maxRecDepth 100000 in
theorem k_X9_writeTo_2 (l : Launch) (D : va_G) (cI cS : ClassId) (sz : Nat) (a : Nat → Nat) (na nc N : Nat) (l_s l_t l_i l_kp l_iz l_z l_tp l_o0 l_o1 l_o2 l_o3 l_n0 l_n1 l_n2 l_n3 : Int32) (u0 : SU) (hL : TyX (mkL l_s l_t l_i l_kp l_iz l_z l_tp l_o0 l_o1 l_o2 l_o3 l_n0 l_n1 l_n2 l_n3)) (hN : N = 0 ∨ N = 24576) (x0 : Int32) : Met l yX9_writeTo wsX9_writeTo ({ frames := 2, cells := 0, slots := 0, locals := 80 }) (PQ D cI cS (wX cI cS a na nc N (mkL l_s l_t l_i l_kp l_iz l_z l_tp l_o0 l_o1 l_o2 l_o3 l_n0 l_n1 l_n2 l_n3) u0) sz [.ref (a 34), .ref (a 30), .int x0]) (QE (S := Int32 × Int32 × SU) D (wX cI cS a na nc N (mkL l_s l_t l_i l_kp l_iz l_z l_tp l_o0 l_o1 l_o2 l_o3 l_n0 l_n1 l_n2 l_n3) u0) (fun q => wX cI cS a na nc N (mkL l_s l_t l_i l_kp l_iz l_z l_tp l_o0 l_o1 q.1 l_o3 l_n0 l_n1 q.2.1 l_n3) q.2.2) sz (fun q => Rg 0 40 q.2.1 ∧ (q.1.toInt = x0.toInt ∧ q.2.1.toInt = l_s.toInt))) 0 0 (va_A (wX cI cS a na nc N (mkL l_s l_t l_i l_kp l_iz l_z l_tp l_o0 l_o1 l_o2 l_o3 l_n0 l_n1 l_n2 l_n3) u0) sz) := by
  refine Met.ofW (cc := cX9_writeTo) (maxL := 4) (ret := none) (by decide) rfl ?_
  intro p e s m args below meth c s₁ B hml hv
  obtain ⟨rfl, hsz, hP, hKK, hD0⟩ := hv
  have hx := B.exec
  have hb := B.bytes
  have hr := B.returns
  have hts := atoms_spec (ws := wsX9_writeTo) B.pre
  have hown : s.vm.findClass RX9 = some m.cls := findClass_of_methodNamed B.named
  have hlocks := B.notSynchronized
  have hK := hKK.1
  have hin2 : ∀ w ∈ wsX20, w ∈ wsX9_writeTo := by decide +kernel
  have hin9 : ∀ w ∈ wsX90, w ∈ wsX9_writeTo := by decide +kernel
  subst hsz
  have hD := hD0.self (sz := s.heap.size)
  obtain ⟨A, hAe⟩ : ∃ A, A = va_A (wX cI cS a na nc N (mkL l_s l_t l_i l_kp l_iz l_z l_tp l_o0 l_o1 l_o2 l_o3 l_n0 l_n1 l_n2 l_n3) u0) s.heap.size := ⟨_, rfl⟩
  rw [← hAe] at hD
  have hA : ∀ q : Nat, s.heap.size ≤ q → A q := fun q h => by rw [hAe]; exact Or.inr h
  have hS : va_S A s.heap s.heap [] := va_S.rf
  have hl := lv_entry ([.ref (a 34), .ref (a 30), .int x0]) (n := 4) (Nat.le_of_ble_eq_true rfl)
  rw [lg_entry_eq]
  generalize (lg_sl ([.ref (a 34), .ref (a 30), .int x0]) ++ List.replicate (4 - (lg_sl ([.ref (a 34), .ref (a 30), .int x0])).length) Slot.unset).toArray = ls at hl ⊢
  have hl : lv_has ls 4 [(0, .ref (a 34)), (1, .ref (a 30)), (2, .int x0)] := hl
  obtain ⟨u, hu9⟩ : ∃ u : SU, u = u0 := ⟨_, rfl⟩
  rw [← hu9] at hP hD
  have p_s : Rg 0 12 l_s := hL.1
  have p_t : Rg 0 12 l_t := hL.2.1
  have p_i : Rg 0 12 l_i := hL.2.2.1
  have p_tp : Rg 0 120 l_tp := hL.2.2.2.1
  have p_n0 : Rg 0 40 l_n0 := hL.2.2.2.2.1
  have p_n1 : Rg 0 40 l_n1 := hL.2.2.2.2.2.1
  have p_n2 : Rg 0 40 l_n2 := hL.2.2.2.2.2.2.1
  have p_n3 : Rg 0 40 l_n3 := hL.2.2.2.2.2.2.2
  have lp14 : ∀ (n14 : Nat) (y14_l3 : Int32) (y14_ko2 : Int32) (y14_kn2 : Int32) (u : SU) (H : Heap) (locs : List Loc) (ls : Array Slot), Rg 0 12 y14_l3 → Rg 0 40 y14_kn2 → (y14_ko2.toInt = x0.toInt ∧ y14_kn2.toInt = l_s.toInt) → va_P D cls (wX cI cS a na nc N (mkL l_s l_t l_i l_kp l_iz l_z l_tp l_o0 l_o1 y14_ko2 l_o3 l_n0 l_n1 y14_kn2 l_n3) u) H → va_D A (wX cI cS a na nc N (mkL l_s l_t l_i l_kp l_iz l_z l_tp l_o0 l_o1 y14_ko2 l_o3 l_n0 l_n1 y14_kn2 l_n3) u) → va_S A s.heap H locs → lv_has ls 4 [(0, .ref (a 34)), (1, .ref (a 30)), (3, .int y14_l3)] → 12 - y14_l3.toInt < (n14 : Int) → W p l e (headSpec wsX9_writeTo ({ frames := 2, cells := 0, slots := 0, locals := 80 })).room s m ([.ref (a 34), .ref (a 30), .int x0]).toArray below meth c H locs 0 0 (MQ below (QE (S := Int32 × Int32 × SU) D (wX cI cS a na nc N (mkL l_s l_t l_i l_kp l_iz l_z l_tp l_o0 l_o1 l_o2 l_o3 l_n0 l_n1 l_n2 l_n3) u0) (fun q => wX cI cS a na nc N (mkL l_s l_t l_i l_kp l_iz l_z l_tp l_o0 l_o1 q.1 l_o3 l_n0 l_n1 q.2.1 l_n3) q.2.2) s.heap.size (fun q => Rg 0 40 q.2.1 ∧ (q.1.toInt = x0.toInt ∧ q.2.1.toInt = l_s.toInt))) ([.ref (a 34), .ref (a 30), .int x0]).toArray s 0 0 (va_A (wX cI cS a na nc N (mkL l_s l_t l_i l_kp l_iz l_z l_tp l_o0 l_o1 l_o2 l_o3 l_n0 l_n1 l_n2 l_n3) u0) s.heap.size)) (F0 m 14 ls []) := by
    intro n14
    induction n14 with
    | zero =>
      intro y14_l3 y14_ko2 y14_kn2 u H locs ls g14_l3 g14_kn2 x14_0 hP hD hS hl hm14
      exact absurd rfl (me_z g14_l3 hm14)
    | succ n14 ih14 =>
      intro y14_l3 y14_ko2 y14_kn2 u H locs ls g14_l3 g14_kn2 x14_0 hP hD hS hl hm14
      refine lv_iload_n hx hb dX9_writeTo_14 rfl (lv_at hl 2 rfl) ?_
      refine lv_aload_n hx hb dX9_writeTo_15 rfl (lv_at hl 0 rfl) ?_
      refine va_get (D := D) (ci := 9) (v := .ref (a 1)) (C := RX9) (T := TX9) (N := 6) hx hb hts hin9 hown hK hP 34 rfl rfl 0 (by decide) (hts (.fieldLink RX9 21 "MissedPoints$Told" "net" "LMissedPoints$Net;") (by decide +kernel)) (fun _ h9 => h9) rfl dX9_writeTo_16 ?_
      refine va_getN (D := D) (ci := 2) (v := .int l_s) (C := RX2) (T := TX2) (N := 3) hx hb hts hin2 hown hK hP 1 rfl rfl 1 (by decide) (va_Nw.use rfl hKK.2.2.2.2.2.2.2.2.2.2.2.2.2.2.2.2.1) (fun _ h9 => h9) rfl dX9_writeTo_19 ?_
      refine lv_icmp_ge (tgt := 42) hx hb dX9_writeTo_22 (by decide) (fun c49853 => ?_) (fun c49853 => ?_)
      · subst hAe
        exact W.vret hx hb hr (fun t ht hW => ⟨⟨(y14_ko2, y14_kn2, u), rfl, ⟨g14_kn2, (show y14_ko2.toInt = x0.toInt ∧ y14_kn2.toInt = l_s.toInt from by have y90 : l_s.toInt ≤ y14_l3.toInt := (lz_le _ _).mp c49853; have y91 : Rg 0 12 y14_l3 := g14_l3; have y92 : Rg 0 12 l_s := p_s; have y93 : Rg 0 12 l_t := p_t; have y94 : Rg 0 12 l_i := p_i; have y95 : Rg 0 120 l_tp := p_tp; have y96 : Rg 0 40 l_n0 := p_n0; have y97 : Rg 0 40 l_n1 := p_n1; have y98 : Rg 0 40 y14_kn2 := g14_kn2; have y99 : Rg 0 40 l_n3 := p_n3; have y9c10 : (0 : Int32).toInt = 0 := (by decide); have y9c11 : (1 : Int32).toInt = 1 := (by decide); omega)⟩, by rw [ht]; exact hP, hD⟩, hS.F ht⟩) hS.2.2 dX9_writeTo_42
      · have g49854 : Rg 1 12 l_s := rg_ltr g14_l3 p_s (rg_nle c49853) (by decide)
        have g49855 : Rg 0 11 y14_l3 := rg_ltl g14_l3 p_s (rg_nle c49853) (by decide)
        refine lv_aload_n hx hb dX9_writeTo_25 rfl (lv_at hl 1 rfl) ?_
        refine lv_iload_n hx hb dX9_writeTo_26 rfl (lv_at hl 2 rfl) ?_
        refine lv_aload_n hx hb dX9_writeTo_27 rfl (lv_at hl 0 rfl) ?_
        refine va_get (D := D) (ci := 9) (v := .ref (a 35)) (C := RX9) (T := TX9) (N := 6) hx hb hts hin9 hown hK hP 34 rfl rfl 2 (by decide) (hts (.fieldLink RX9 9 "MissedPoints$Told" "mates" "[I") (by decide +kernel)) (fun _ h9 => h9) rfl dX9_writeTo_28 ?_
        refine lv_iload_n hx hb dX9_writeTo_31 rfl (lv_at hl 2 rfl) ?_
        refine wk_aldA hx hb hK hP 35 0 rfl rfl (rg_in g49855 (by decide) (by decide)) dX9_writeTo_32 (fun r49856 => ?_)
        refine wk_qv (wX cI cS a na nc N (mkL l_s l_t l_i l_kp l_iz l_z l_tp l_o0 l_o1 y14_ko2 l_o3 l_n0 l_n1 y14_kn2 l_n3)) u (As := [.int y14_l3, .int r49856]) (rest := []) ⟨hx, hb, hml, hown, hts⟩ (k_X6_store l D cI cS _ a na nc N (mkL l_s l_t l_i l_kp l_iz l_z l_tp l_o0 l_o1 y14_ko2 l_o3 l_n0 l_n1 y14_kn2 l_n3) u (show TyX (mkL l_s l_t l_i l_kp l_iz l_z l_tp l_o0 l_o1 y14_ko2 l_o3 l_n0 l_n1 y14_kn2 l_n3) from ⟨(show Rg 0 12 l_s from rg_w g49854 (by decide) (by decide)), p_t, p_i, p_tp, p_n0, p_n1, g14_kn2, p_n3⟩) hN 2 (by decide) y14_l3 r49856) hKK hP hD hS hA 30 (ci := 6) rfl rfl (cwV 2 hts gX9_writeTo_X6_store rfl rfl rfl (by decide +kernel) ⟨Nat.le_of_ble_eq_true rfl, Nat.le_of_ble_eq_true rfl⟩) rfl hl.1 rfl (Nat.le_of_ble_eq_true rfl) dX9_writeTo_33 ⟨Nat.le_of_ble_eq_true rfl, Nat.le_of_ble_eq_true rfl⟩ (fun u H locs hr49857 hP hD hS => ?_)
        refine wk_iinc (lv' := fun r => [(3, .int r), (0, .ref (a 34)), (1, .ref (a 30))]) (e1 := 1) (f := 12) hx hb dX9_writeTo_36 hl (k := 2) rfl (by decide) g49855 (by decide) (fun _ => rfl) (fun r49858 ls hr49858 er49858 hl => ?_)
        refine lv_goto (tgt := 14) hx hb dX9_writeTo_39 (by decide) ?_
        exact ih14 r49858 y14_ko2 y14_kn2 u _ _ ls (show Rg 0 12 r49858 from rg_w hr49858 (by decide) (by decide)) g14_kn2 (show (y14_ko2.toInt = x0.toInt ∧ y14_kn2.toInt = l_s.toInt) from by have y90 : y14_l3.toInt < l_s.toInt := (lz_lt _ _).mp (rg_nle c49853); have y91 : Rg 1 12 l_s := g49854; have y92 : Rg 0 11 y14_l3 := g49855; have y93 : Rg 1 12 r49858 := hr49858; have y94 : Rg 1 12 l_s := g49854; have y95 : Rg 0 12 l_t := p_t; have y96 : Rg 0 12 l_i := p_i; have y97 : Rg 0 120 l_tp := p_tp; have y98 : Rg 0 40 l_n0 := p_n0; have y99 : Rg 0 40 l_n1 := p_n1; have y910 : Rg 0 40 y14_kn2 := g14_kn2; have y911 : Rg 0 40 l_n3 := p_n3; have y9c12 : (0 : Int32).toInt = 0 := (by decide); have y9c13 : (1 : Int32).toInt = 1 := (by decide); omega) hP hD hS (lv_sub (l' := [(0, .ref (a 34)), (1, .ref (a 30)), (3, .int r49858)]) hl [1, 2, 0] rfl) (me_up hm14 er49858 (by decide))
  refine lv_aload_n hx hb dX9_writeTo_0 rfl (lv_at hl 1 rfl) ?_
  refine lv_iload_n hx hb dX9_writeTo_1 rfl (lv_at hl 2 rfl) ?_
  refine lv_aload_n hx hb dX9_writeTo_2 rfl (lv_at hl 0 rfl) ?_
  refine va_get (D := D) (ci := 9) (v := .ref (a 1)) (C := RX9) (T := TX9) (N := 6) hx hb hts hin9 hown hK hP 34 rfl rfl 0 (by decide) (hts (.fieldLink RX9 21 "MissedPoints$Told" "net" "LMissedPoints$Net;") (by decide +kernel)) (fun _ h9 => h9) rfl dX9_writeTo_3 ?_
  refine va_getN (D := D) (ci := 2) (v := .int l_s) (C := RX2) (T := TX2) (N := 3) hx hb hts hin2 hown hK hP 1 rfl rfl 1 (by decide) (va_Nw.use rfl hKK.2.2.2.2.2.2.2.2.2.2.2.2.2.2.2.2.1) (fun _ h9 => h9) rfl dX9_writeTo_6 ?_
  refine wk_qv (S := Int32 × Int32 × SU) (fun q => wX cI cS a na nc N (mkL l_s l_t l_i l_kp l_iz l_z l_tp l_o0 l_o1 q.1 l_o3 l_n0 l_n1 q.2.1 l_n3) q.2.2) (l_o2, l_n2, u) (As := [.int x0, .int l_s]) (rest := []) ⟨hx, hb, hml, hown, hts⟩ (k_X6_become_2 l D cI cS _ a na nc N l_s l_t l_i l_kp l_iz l_z l_tp l_o0 l_o1 l_o2 l_o3 l_n0 l_n1 l_n2 l_n3 u (show TyX (mkL l_s l_t l_i l_kp l_iz l_z l_tp l_o0 l_o1 l_o2 l_o3 l_n0 l_n1 l_n2 l_n3) from ⟨p_s, p_t, p_i, p_tp, p_n0, p_n1, p_n2, p_n3⟩) hN x0 l_s) hKK hP hD hS hA 30 (ci := 6) rfl rfl (cwV 2 hts gX9_writeTo_X6_become rfl rfl rfl (by decide +kernel) ⟨Nat.le_of_ble_eq_true rfl, Nat.le_of_ble_eq_true rfl⟩) rfl hl.1 rfl (Nat.le_of_ble_eq_true rfl) dX9_writeTo_9 ⟨Nat.le_of_ble_eq_true rfl, Nat.le_of_ble_eq_true rfl⟩ (fun q9 H locs hr49859 hP hD hS => ?_)
  obtain ⟨r49860, r49861, u⟩ := q9
  have hr49859 : Rg 0 40 r49861 ∧ (r49860.toInt = x0.toInt ∧ (0 ≤ l_s.toInt → l_s.toInt ≤ 40 → r49861.toInt = l_s.toInt)) := hr49859
  have hP : va_P D cls (wX cI cS a na nc N (mkL l_s l_t l_i l_kp l_iz l_z l_tp l_o0 l_o1 r49860 l_o3 l_n0 l_n1 r49861 l_n3) u) H := hP
  have hD : va_D A (wX cI cS a na nc N (mkL l_s l_t l_i l_kp l_iz l_z l_tp l_o0 l_o1 r49860 l_o3 l_n0 l_n1 r49861 l_n3) u) := hD
  have kr49859_0 := hr49859.2
  refine lv_iconst (v := 0) hx hb dX9_writeTo_12 (by decide) ?_
  refine lv_istore_n (lv' := [(3, .int 0), (0, .ref (a 34)), (1, .ref (a 30)), (2, .int x0)]) hx hb dX9_writeTo_13 rfl hl (by decide) rfl (fun ls hl => ?_)
  exact lp14 13 (0 : Int32) r49860 r49861 u _ _ ls (by decide : Rg 0 12 (0 : Int32)) hr49859.1 (show (r49860.toInt = x0.toInt ∧ r49861.toInt = l_s.toInt) from by have y90 : Rg 0 12 l_s := p_s; have y91 : Rg 0 12 l_t := p_t; have y92 : Rg 0 12 l_i := p_i; have y93 : Rg 0 120 l_tp := p_tp; have y94 : Rg 0 40 l_n0 := p_n0; have y95 : Rg 0 40 l_n1 := p_n1; have y96 : Rg 0 40 r49861 := hr49859.1; have y97 : Rg 0 40 l_n3 := p_n3; have y9c8 : (0 : Int32).toInt = 0 := (by decide); have y9c9 : (1 : Int32).toInt = 1 := (by decide); omega) hP hD hS (lv_sub (l' := [(0, .ref (a 34)), (1, .ref (a 30)), (3, .int 0)]) hl [1, 2, 0] rfl) (me_i (by decide : Rg 0 12 (0 : Int32)) (by decide))
set_option maxHeartbeats 4000000 in
set_option maxRecDepth 100000 in
theorem k_X6_become_3 (l : Launch) (D : va_G) (cI cS : ClassId) (sz : Nat) (a : Nat → Nat) (na nc N : Nat) (l_s l_t l_i l_kp l_iz l_z l_tp l_o0 l_o1 l_o2 l_o3 l_n0 l_n1 l_n2 l_n3 : Int32) (u0 : SU) (hL : TyX (mkL l_s l_t l_i l_kp l_iz l_z l_tp l_o0 l_o1 l_o2 l_o3 l_n0 l_n1 l_n2 l_n3)) (hN : N = 0 ∨ N = 24576) (x0 x1 : Int32) : Met l yX6_become wsX6_become ({ frames := 1, cells := 0, slots := 0, locals := 40 }) (PQ D cI cS (wX cI cS a na nc N (mkL l_s l_t l_i l_kp l_iz l_z l_tp l_o0 l_o1 l_o2 l_o3 l_n0 l_n1 l_n2 l_n3) u0) sz [.ref (a 32), .int x0, .int x1]) (QE (S := Int32 × Int32 × SU) D (wX cI cS a na nc N (mkL l_s l_t l_i l_kp l_iz l_z l_tp l_o0 l_o1 l_o2 l_o3 l_n0 l_n1 l_n2 l_n3) u0) (fun q => wX cI cS a na nc N (mkL l_s l_t l_i l_kp l_iz l_z l_tp l_o0 l_o1 l_o2 q.1 l_n0 l_n1 l_n2 q.2.1) q.2.2) sz (fun q => Rg 0 40 q.2.1 ∧ (q.1.toInt = x0.toInt ∧ (0 ≤ x1.toInt → x1.toInt ≤ 40 → q.2.1.toInt = x1.toInt)))) 0 0 (va_A (wX cI cS a na nc N (mkL l_s l_t l_i l_kp l_iz l_z l_tp l_o0 l_o1 l_o2 l_o3 l_n0 l_n1 l_n2 l_n3) u0) sz) := by
  refine Met.ofW (cc := cX6_become) (maxL := 4) (ret := none) (by decide) rfl ?_
  intro p e s m args below meth c s₁ B hml hv
  obtain ⟨rfl, hsz, hP, hKK, hD0⟩ := hv
  have hx := B.exec
  have hb := B.bytes
  have hr := B.returns
  have hts := atoms_spec (ws := wsX6_become) B.pre
  have hown : s.vm.findClass RX6 = some m.cls := findClass_of_methodNamed B.named
  have hlocks := B.notSynchronized
  have hK := hKK.1
  have hin6 : ∀ w ∈ wsX60, w ∈ wsX6_become := by decide +kernel
  subst hsz
  have hD := hD0.self (sz := s.heap.size)
  obtain ⟨A, hAe⟩ : ∃ A, A = va_A (wX cI cS a na nc N (mkL l_s l_t l_i l_kp l_iz l_z l_tp l_o0 l_o1 l_o2 l_o3 l_n0 l_n1 l_n2 l_n3) u0) s.heap.size := ⟨_, rfl⟩
  rw [← hAe] at hD
  have hA : ∀ q : Nat, s.heap.size ≤ q → A q := fun q h => by rw [hAe]; exact Or.inr h
  have hS : va_S A s.heap s.heap [] := va_S.rf
  have hl := lv_entry ([.ref (a 32), .int x0, .int x1]) (n := 4) (Nat.le_of_ble_eq_true rfl)
  rw [lg_entry_eq]
  generalize (lg_sl ([.ref (a 32), .int x0, .int x1]) ++ List.replicate (4 - (lg_sl ([.ref (a 32), .int x0, .int x1])).length) Slot.unset).toArray = ls at hl ⊢
  have hl : lv_has ls 4 [(0, .ref (a 32)), (1, .int x0), (2, .int x1)] := hl
  obtain ⟨u, hu9⟩ : ∃ u : SU, u = u0 := ⟨_, rfl⟩
  rw [← hu9] at hP hD
  have p_s : Rg 0 12 l_s := hL.1
  have p_t : Rg 0 12 l_t := hL.2.1
  have p_i : Rg 0 12 l_i := hL.2.2.1
  have p_tp : Rg 0 120 l_tp := hL.2.2.2.1
  have p_n0 : Rg 0 40 l_n0 := hL.2.2.2.2.1
  have p_n1 : Rg 0 40 l_n1 := hL.2.2.2.2.2.1
  have p_n2 : Rg 0 40 l_n2 := hL.2.2.2.2.2.2.1
  have p_n3 : Rg 0 40 l_n3 := hL.2.2.2.2.2.2.2
  have lp21 : ∀ (n21 : Nat) (y21_l3 : Int32) (y21_kn3 : Int32) (u : SU) (H : Heap) (locs : List Loc) (ls : Array Slot), Rg 0 40 y21_l3 → Rg 0 40 y21_kn3 → (0 ≤ x1.toInt → x1.toInt ≤ 40 → y21_kn3.toInt = x1.toInt) → va_P D cls (wX cI cS a na nc N (mkL l_s l_t l_i l_kp l_iz l_z l_tp l_o0 l_o1 l_o2 x0 l_n0 l_n1 l_n2 y21_kn3) u) H → va_D A (wX cI cS a na nc N (mkL l_s l_t l_i l_kp l_iz l_z l_tp l_o0 l_o1 l_o2 x0 l_n0 l_n1 l_n2 y21_kn3) u) → va_S A s.heap H locs → lv_has ls 4 [(0, .ref (a 32)), (3, .int y21_l3)] → 40 - y21_l3.toInt < (n21 : Int) → W p l e (headSpec wsX6_become ({ frames := 1, cells := 0, slots := 0, locals := 40 })).room s m ([.ref (a 32), .int x0, .int x1]).toArray below meth c H locs 0 0 (MQ below (QE (S := Int32 × Int32 × SU) D (wX cI cS a na nc N (mkL l_s l_t l_i l_kp l_iz l_z l_tp l_o0 l_o1 l_o2 l_o3 l_n0 l_n1 l_n2 l_n3) u0) (fun q => wX cI cS a na nc N (mkL l_s l_t l_i l_kp l_iz l_z l_tp l_o0 l_o1 l_o2 q.1 l_n0 l_n1 l_n2 q.2.1) q.2.2) s.heap.size (fun q => Rg 0 40 q.2.1 ∧ (q.1.toInt = x0.toInt ∧ (0 ≤ x1.toInt → x1.toInt ≤ 40 → q.2.1.toInt = x1.toInt)))) ([.ref (a 32), .int x0, .int x1]).toArray s 0 0 (va_A (wX cI cS a na nc N (mkL l_s l_t l_i l_kp l_iz l_z l_tp l_o0 l_o1 l_o2 l_o3 l_n0 l_n1 l_n2 l_n3) u0) s.heap.size)) (F0 m 21 ls []) := by
    intro n21
    induction n21 with
    | zero =>
      intro y21_l3 y21_kn3 u H locs ls g21_l3 g21_kn3 x21_0 hP hD hS hl hm21
      exact absurd rfl (me_z g21_l3 hm21)
    | succ n21 ih21 =>
      intro y21_l3 y21_kn3 u H locs ls g21_l3 g21_kn3 x21_0 hP hD hS hl hm21
      refine lv_iload_n hx hb dX6_become_21 rfl (lv_at hl 1 rfl) ?_
      refine lv_bipush (v := 40) hx hb dX6_become_22 (by decide) ?_
      refine lv_icmp_ge (tgt := 40) hx hb dX6_become_24 (by decide) (fun c49920 => ?_) (fun c49920 => ?_)
      · have g49921 : Rg 40 40 y21_l3 := rg_ler (by decide : Rg 40 40 (40 : Int32)) g21_l3 c49920 (by decide)
        subst hAe
        exact W.vret hx hb hr (fun t ht hW => ⟨⟨(x0, y21_kn3, u), rfl, ⟨g21_kn3, (show x0.toInt = x0.toInt ∧ (0 ≤ x1.toInt → x1.toInt ≤ 40 → y21_kn3.toInt = x1.toInt) from by have y90 : (40 : Int32).toInt ≤ y21_l3.toInt := (lz_le _ _).mp c49920; have y91 : Rg 40 40 y21_l3 := g49921; have y92 : Rg 40 40 y21_l3 := g49921; have y93 : Rg 0 12 l_s := p_s; have y94 : Rg 0 12 l_t := p_t; have y95 : Rg 0 12 l_i := p_i; have y96 : Rg 0 120 l_tp := p_tp; have y97 : Rg 0 40 l_n0 := p_n0; have y98 : Rg 0 40 l_n1 := p_n1; have y99 : Rg 0 40 l_n2 := p_n2; have y910 : Rg 0 40 y21_kn3 := g21_kn3; have y9c11 : (0 : Int32).toInt = 0 := (by decide); have y9c12 : (1 : Int32).toInt = 1 := (by decide); have y9c13 : (40 : Int32).toInt = 40 := (by decide); omega)⟩, by rw [ht]; exact hP, hD⟩, hS.F ht⟩) hS.2.2 dX6_become_40
      · have g49922 : Rg 0 39 y21_l3 := rg_ltl g21_l3 (by decide : Rg 40 40 (40 : Int32)) (rg_nle c49920) (by decide)
        refine lv_aload_n hx hb dX6_become_27 rfl (lv_at hl 0 rfl) ?_
        refine va_get (D := D) (ci := 6) (v := .ref (a 33)) (C := RX6) (T := TX6) (N := 3) hx hb hts hin6 hown hK hP 32 rfl rfl 0 (by decide) (hts (.fieldLink RX6 9 "MissedPoints$Sheet" "numbers" "[I") (by decide +kernel)) (fun _ h9 => h9) rfl dX6_become_28 ?_
        refine lv_iload_n hx hb dX6_become_31 rfl (lv_at hl 1 rfl) ?_
        refine lv_iconst (v := 0) hx hb dX6_become_32 (by decide) ?_
        refine ks_ast hx hb hK hP hD hS rfl (k := 33) rfl sx_33 (rg_in g49922 (by decide) (by decide)) dX6_become_33 (fun u H locs hP hD hS => ?_)
        refine wk_iinc (lv' := fun r => [(3, .int r), (0, .ref (a 32))]) (e1 := 1) (f := 40) hx hb dX6_become_34 hl (k := 1) rfl (by decide) g49922 (by decide) (fun _ => rfl) (fun r49923 ls hr49923 er49923 hl => ?_)
        refine lv_goto (tgt := 21) hx hb dX6_become_37 (by decide) ?_
        exact ih21 r49923 y21_kn3 u _ _ ls (show Rg 0 40 r49923 from rg_w hr49923 (by decide) (by decide)) g21_kn3 (show (0 ≤ x1.toInt → x1.toInt ≤ 40 → y21_kn3.toInt = x1.toInt) from by have y90 : y21_l3.toInt < (40 : Int32).toInt := (lz_lt _ _).mp (rg_nle c49920); have y91 : Rg 0 39 y21_l3 := g49922; have y92 : Rg 1 40 r49923 := hr49923; have y93 : Rg 0 12 l_s := p_s; have y94 : Rg 0 12 l_t := p_t; have y95 : Rg 0 12 l_i := p_i; have y96 : Rg 0 120 l_tp := p_tp; have y97 : Rg 0 40 l_n0 := p_n0; have y98 : Rg 0 40 l_n1 := p_n1; have y99 : Rg 0 40 l_n2 := p_n2; have y910 : Rg 0 40 y21_kn3 := g21_kn3; have y9c11 : (0 : Int32).toInt = 0 := (by decide); have y9c12 : (1 : Int32).toInt = 1 := (by decide); have y9c13 : (40 : Int32).toInt = 40 := (by decide); omega) hP hD hS (lv_sub (l' := [(0, .ref (a 32)), (3, .int r49923)]) hl [1, 0] rfl) (me_up hm21 er49923 (by decide))
  refine lv_aload_n hx hb dX6_become_0 rfl (lv_at hl 0 rfl) ?_
  refine lv_iload_n hx hb dX6_become_1 rfl (lv_at hl 1 rfl) ?_
  refine va_put (D := D) (ci := 6) (v := .int x0) (ty := .int) (C := RX6) (T := TX6) (N := 3) hx hb hts hin6 tyX6 tyX6_ok nmX6 hown hK hP hD hS 32 rfl rfl 1 (by decide) (hts (.fieldLink RX6 15 "MissedPoints$Sheet" "sort" "I") (by decide +kernel)) (fun _ h9 => h9) rfl (by decide +kernel) rfl rfl (Nat.le_of_ble_eq_true rfl) dX6_become_2 (fun H locs hP hD hS => ?_)
  have hP : va_P D cls (wX cI cS a na nc N (mkL l_s l_t l_i l_kp l_iz l_z l_tp l_o0 l_o1 l_o2 x0 l_n0 l_n1 l_n2 l_n3) u) H := hP
  have hD : va_D A (wX cI cS a na nc N (mkL l_s l_t l_i l_kp l_iz l_z l_tp l_o0 l_o1 l_o2 x0 l_n0 l_n1 l_n2 l_n3) u) := hD
  refine lv_aload_n hx hb dX6_become_5 rfl (lv_at hl 0 rfl) ?_
  refine lv_iconst (v := 0) hx hb dX6_become_6 (by decide) ?_
  refine lv_iload_n hx hb dX6_become_7 rfl (lv_at hl 2 rfl) ?_
  refine lv_bipush (v := 40) hx hb dX6_become_8 (by decide) ?_
  refine va_mmin hx hb (by rw [hml]; exact hl.1.symm) hown (hts (.methodLink RX6 19 Lib.Math.min.name) (by decide +kernel)) (hts (.static Lib.Math.min.name) (by decide +kernel)) (hts (.initialized "java/lang/Math") (by decide +kernel)) (hts (.code Lib.Math.min.name Lib.Math.min.code 2 (some .int)) (by decide +kernel)) (Nat.le_of_ble_eq_true rfl) (Nat.le_of_ble_eq_true rfl) (Nat.le_of_ble_eq_true rfl) (Nat.le_of_ble_eq_true rfl) dX6_become_10 ?_
  refine wk_topP (P := fun r => Rg (-2147483648) 40 r ∧ (r.toInt ≤ x1.toInt ∧ r.toInt ≤ (40 : Int32).toInt) ∧ (r.toInt = x1.toInt ∨ r.toInt = (40 : Int32).toInt)) ⟨wk_min (rg_any x1) (by decide : Rg 40 40 (40 : Int32)) (by decide), ⟨⟨wk_minE.1, wk_minE.2.1⟩, wk_minE.2.2⟩⟩ (fun r49924 hr49924 => ?_)
  refine va_mmax hx hb (by rw [hml]; exact hl.1.symm) hown (hts (.methodLink RX6 25 Lib.Math.max.name) (by decide +kernel)) (hts (.static Lib.Math.max.name) (by decide +kernel)) (hts (.initialized "java/lang/Math") (by decide +kernel)) (hts (.code Lib.Math.max.name Lib.Math.max.code 2 (some .int)) (by decide +kernel)) (Nat.le_of_ble_eq_true rfl) (Nat.le_of_ble_eq_true rfl) (Nat.le_of_ble_eq_true rfl) (Nat.le_of_ble_eq_true rfl) dX6_become_13 ?_
  refine wk_topP (P := fun r => Rg 0 40 r ∧ ((0 : Int32).toInt ≤ r.toInt ∧ r49924.toInt ≤ r.toInt) ∧ (r.toInt = (0 : Int32).toInt ∨ r.toInt = r49924.toInt)) ⟨wk_max (by decide : Rg 0 0 (0 : Int32)) hr49924.1 (by decide), ⟨⟨wk_maxE.1, wk_maxE.2.1⟩, wk_maxE.2.2⟩⟩ (fun r49925 hr49925 => ?_)
  refine va_put (D := D) (ci := 6) (v := .int r49925) (ty := .int) (C := RX6) (T := TX6) (N := 3) hx hb hts hin6 tyX6 tyX6_ok nmX6 hown hK hP hD hS 32 rfl rfl 2 (by decide) (hts (.fieldLink RX6 28 "MissedPoints$Sheet" "size" "I") (by decide +kernel)) (fun _ h9 => h9) rfl (by decide +kernel) rfl rfl (Nat.le_of_ble_eq_true rfl) dX6_become_16 (fun H locs hP hD hS => ?_)
  have hP : va_P D cls (wX cI cS a na nc N (mkL l_s l_t l_i l_kp l_iz l_z l_tp l_o0 l_o1 l_o2 x0 l_n0 l_n1 l_n2 r49925) u) H := hP
  have hD : va_D A (wX cI cS a na nc N (mkL l_s l_t l_i l_kp l_iz l_z l_tp l_o0 l_o1 l_o2 x0 l_n0 l_n1 l_n2 r49925) u) := hD
  refine lv_iconst (v := 0) hx hb dX6_become_19 (by decide) ?_
  refine lv_istore_n (lv' := [(3, .int 0), (0, .ref (a 32)), (1, .int x0), (2, .int x1)]) hx hb dX6_become_20 rfl hl (by decide) rfl (fun ls hl => ?_)
  exact lp21 41 (0 : Int32) r49925 u _ _ ls (by decide : Rg 0 40 (0 : Int32)) hr49925.1 (show (0 ≤ x1.toInt → x1.toInt ≤ 40 → r49925.toInt = x1.toInt) from by have y90 : Rg 0 12 l_s := p_s; have y91 : Rg 0 12 l_t := p_t; have y92 : Rg 0 12 l_i := p_i; have y93 : Rg 0 120 l_tp := p_tp; have y94 : Rg 0 40 l_n0 := p_n0; have y95 : Rg 0 40 l_n1 := p_n1; have y96 : Rg 0 40 l_n2 := p_n2; have y97 : Rg 0 40 r49925 := hr49925.1; have y9c8 : (0 : Int32).toInt = 0 := (by decide); have y9c9 : (1 : Int32).toInt = 1 := (by decide); have y9c10 : (40 : Int32).toInt = 40 := (by decide); omega) hP hD hS (lv_sub (l' := [(0, .ref (a 32)), (3, .int 0)]) hl [1, 0] rfl) (me_i (by decide : Rg 0 40 (0 : Int32)) (by decide))
set_option maxHeartbeats 4000000 in
set_option maxRecDepth 100000 in
theorem k_X9_writeTo_3 (l : Launch) (D : va_G) (cI cS : ClassId) (sz : Nat) (a : Nat → Nat) (na nc N : Nat) (l_s l_t l_i l_kp l_iz l_z l_tp l_o0 l_o1 l_o2 l_o3 l_n0 l_n1 l_n2 l_n3 : Int32) (u0 : SU) (hL : TyX (mkL l_s l_t l_i l_kp l_iz l_z l_tp l_o0 l_o1 l_o2 l_o3 l_n0 l_n1 l_n2 l_n3)) (hN : N = 0 ∨ N = 24576) (x0 : Int32) : Met l yX9_writeTo wsX9_writeTo ({ frames := 2, cells := 0, slots := 0, locals := 80 }) (PQ D cI cS (wX cI cS a na nc N (mkL l_s l_t l_i l_kp l_iz l_z l_tp l_o0 l_o1 l_o2 l_o3 l_n0 l_n1 l_n2 l_n3) u0) sz [.ref (a 34), .ref (a 32), .int x0]) (QE (S := Int32 × Int32 × SU) D (wX cI cS a na nc N (mkL l_s l_t l_i l_kp l_iz l_z l_tp l_o0 l_o1 l_o2 l_o3 l_n0 l_n1 l_n2 l_n3) u0) (fun q => wX cI cS a na nc N (mkL l_s l_t l_i l_kp l_iz l_z l_tp l_o0 l_o1 l_o2 q.1 l_n0 l_n1 l_n2 q.2.1) q.2.2) sz (fun q => Rg 0 40 q.2.1 ∧ (q.1.toInt = x0.toInt ∧ q.2.1.toInt = l_s.toInt))) 0 0 (va_A (wX cI cS a na nc N (mkL l_s l_t l_i l_kp l_iz l_z l_tp l_o0 l_o1 l_o2 l_o3 l_n0 l_n1 l_n2 l_n3) u0) sz) := by
  refine Met.ofW (cc := cX9_writeTo) (maxL := 4) (ret := none) (by decide) rfl ?_
  intro p e s m args below meth c s₁ B hml hv
  obtain ⟨rfl, hsz, hP, hKK, hD0⟩ := hv
  have hx := B.exec
  have hb := B.bytes
  have hr := B.returns
  have hts := atoms_spec (ws := wsX9_writeTo) B.pre
  have hown : s.vm.findClass RX9 = some m.cls := findClass_of_methodNamed B.named
  have hlocks := B.notSynchronized
  have hK := hKK.1
  have hin2 : ∀ w ∈ wsX20, w ∈ wsX9_writeTo := by decide +kernel
  have hin9 : ∀ w ∈ wsX90, w ∈ wsX9_writeTo := by decide +kernel
  subst hsz
  have hD := hD0.self (sz := s.heap.size)
  obtain ⟨A, hAe⟩ : ∃ A, A = va_A (wX cI cS a na nc N (mkL l_s l_t l_i l_kp l_iz l_z l_tp l_o0 l_o1 l_o2 l_o3 l_n0 l_n1 l_n2 l_n3) u0) s.heap.size := ⟨_, rfl⟩
  rw [← hAe] at hD
  have hA : ∀ q : Nat, s.heap.size ≤ q → A q := fun q h => by rw [hAe]; exact Or.inr h
  have hS : va_S A s.heap s.heap [] := va_S.rf
  have hl := lv_entry ([.ref (a 34), .ref (a 32), .int x0]) (n := 4) (Nat.le_of_ble_eq_true rfl)
  rw [lg_entry_eq]
  generalize (lg_sl ([.ref (a 34), .ref (a 32), .int x0]) ++ List.replicate (4 - (lg_sl ([.ref (a 34), .ref (a 32), .int x0])).length) Slot.unset).toArray = ls at hl ⊢
  have hl : lv_has ls 4 [(0, .ref (a 34)), (1, .ref (a 32)), (2, .int x0)] := hl
  obtain ⟨u, hu9⟩ : ∃ u : SU, u = u0 := ⟨_, rfl⟩
  rw [← hu9] at hP hD
  have p_s : Rg 0 12 l_s := hL.1
  have p_t : Rg 0 12 l_t := hL.2.1
  have p_i : Rg 0 12 l_i := hL.2.2.1
  have p_tp : Rg 0 120 l_tp := hL.2.2.2.1
  have p_n0 : Rg 0 40 l_n0 := hL.2.2.2.2.1
  have p_n1 : Rg 0 40 l_n1 := hL.2.2.2.2.2.1
  have p_n2 : Rg 0 40 l_n2 := hL.2.2.2.2.2.2.1
  have p_n3 : Rg 0 40 l_n3 := hL.2.2.2.2.2.2.2
  have lp14 : ∀ (n14 : Nat) (y14_l3 : Int32) (y14_ko3 : Int32) (y14_kn3 : Int32) (u : SU) (H : Heap) (locs : List Loc) (ls : Array Slot), Rg 0 12 y14_l3 → Rg 0 40 y14_kn3 → (y14_ko3.toInt = x0.toInt ∧ y14_kn3.toInt = l_s.toInt) → va_P D cls (wX cI cS a na nc N (mkL l_s l_t l_i l_kp l_iz l_z l_tp l_o0 l_o1 l_o2 y14_ko3 l_n0 l_n1 l_n2 y14_kn3) u) H → va_D A (wX cI cS a na nc N (mkL l_s l_t l_i l_kp l_iz l_z l_tp l_o0 l_o1 l_o2 y14_ko3 l_n0 l_n1 l_n2 y14_kn3) u) → va_S A s.heap H locs → lv_has ls 4 [(0, .ref (a 34)), (1, .ref (a 32)), (3, .int y14_l3)] → 12 - y14_l3.toInt < (n14 : Int) → W p l e (headSpec wsX9_writeTo ({ frames := 2, cells := 0, slots := 0, locals := 80 })).room s m ([.ref (a 34), .ref (a 32), .int x0]).toArray below meth c H locs 0 0 (MQ below (QE (S := Int32 × Int32 × SU) D (wX cI cS a na nc N (mkL l_s l_t l_i l_kp l_iz l_z l_tp l_o0 l_o1 l_o2 l_o3 l_n0 l_n1 l_n2 l_n3) u0) (fun q => wX cI cS a na nc N (mkL l_s l_t l_i l_kp l_iz l_z l_tp l_o0 l_o1 l_o2 q.1 l_n0 l_n1 l_n2 q.2.1) q.2.2) s.heap.size (fun q => Rg 0 40 q.2.1 ∧ (q.1.toInt = x0.toInt ∧ q.2.1.toInt = l_s.toInt))) ([.ref (a 34), .ref (a 32), .int x0]).toArray s 0 0 (va_A (wX cI cS a na nc N (mkL l_s l_t l_i l_kp l_iz l_z l_tp l_o0 l_o1 l_o2 l_o3 l_n0 l_n1 l_n2 l_n3) u0) s.heap.size)) (F0 m 14 ls []) := by
    intro n14
    induction n14 with
    | zero =>
      intro y14_l3 y14_ko3 y14_kn3 u H locs ls g14_l3 g14_kn3 x14_0 hP hD hS hl hm14
      exact absurd rfl (me_z g14_l3 hm14)
    | succ n14 ih14 =>
      intro y14_l3 y14_ko3 y14_kn3 u H locs ls g14_l3 g14_kn3 x14_0 hP hD hS hl hm14
      refine lv_iload_n hx hb dX9_writeTo_14 rfl (lv_at hl 2 rfl) ?_
      refine lv_aload_n hx hb dX9_writeTo_15 rfl (lv_at hl 0 rfl) ?_
      refine va_get (D := D) (ci := 9) (v := .ref (a 1)) (C := RX9) (T := TX9) (N := 6) hx hb hts hin9 hown hK hP 34 rfl rfl 0 (by decide) (hts (.fieldLink RX9 21 "MissedPoints$Told" "net" "LMissedPoints$Net;") (by decide +kernel)) (fun _ h9 => h9) rfl dX9_writeTo_16 ?_
      refine va_getN (D := D) (ci := 2) (v := .int l_s) (C := RX2) (T := TX2) (N := 3) hx hb hts hin2 hown hK hP 1 rfl rfl 1 (by decide) (va_Nw.use rfl hKK.2.2.2.2.2.2.2.2.2.2.2.2.2.2.2.2.1) (fun _ h9 => h9) rfl dX9_writeTo_19 ?_
      refine lv_icmp_ge (tgt := 42) hx hb dX9_writeTo_22 (by decide) (fun c50007 => ?_) (fun c50007 => ?_)
      · subst hAe
        exact W.vret hx hb hr (fun t ht hW => ⟨⟨(y14_ko3, y14_kn3, u), rfl, ⟨g14_kn3, (show y14_ko3.toInt = x0.toInt ∧ y14_kn3.toInt = l_s.toInt from by have y90 : l_s.toInt ≤ y14_l3.toInt := (lz_le _ _).mp c50007; have y91 : Rg 0 12 y14_l3 := g14_l3; have y92 : Rg 0 12 l_s := p_s; have y93 : Rg 0 12 l_t := p_t; have y94 : Rg 0 12 l_i := p_i; have y95 : Rg 0 120 l_tp := p_tp; have y96 : Rg 0 40 l_n0 := p_n0; have y97 : Rg 0 40 l_n1 := p_n1; have y98 : Rg 0 40 l_n2 := p_n2; have y99 : Rg 0 40 y14_kn3 := g14_kn3; have y9c10 : (0 : Int32).toInt = 0 := (by decide); have y9c11 : (1 : Int32).toInt = 1 := (by decide); omega)⟩, by rw [ht]; exact hP, hD⟩, hS.F ht⟩) hS.2.2 dX9_writeTo_42
      · have g50008 : Rg 1 12 l_s := rg_ltr g14_l3 p_s (rg_nle c50007) (by decide)
        have g50009 : Rg 0 11 y14_l3 := rg_ltl g14_l3 p_s (rg_nle c50007) (by decide)
        refine lv_aload_n hx hb dX9_writeTo_25 rfl (lv_at hl 1 rfl) ?_
        refine lv_iload_n hx hb dX9_writeTo_26 rfl (lv_at hl 2 rfl) ?_
        refine lv_aload_n hx hb dX9_writeTo_27 rfl (lv_at hl 0 rfl) ?_
        refine va_get (D := D) (ci := 9) (v := .ref (a 35)) (C := RX9) (T := TX9) (N := 6) hx hb hts hin9 hown hK hP 34 rfl rfl 2 (by decide) (hts (.fieldLink RX9 9 "MissedPoints$Told" "mates" "[I") (by decide +kernel)) (fun _ h9 => h9) rfl dX9_writeTo_28 ?_
        refine lv_iload_n hx hb dX9_writeTo_31 rfl (lv_at hl 2 rfl) ?_
        refine wk_aldA hx hb hK hP 35 0 rfl rfl (rg_in g50009 (by decide) (by decide)) dX9_writeTo_32 (fun r50010 => ?_)
        refine wk_qv (wX cI cS a na nc N (mkL l_s l_t l_i l_kp l_iz l_z l_tp l_o0 l_o1 l_o2 y14_ko3 l_n0 l_n1 l_n2 y14_kn3)) u (As := [.int y14_l3, .int r50010]) (rest := []) ⟨hx, hb, hml, hown, hts⟩ (k_X6_store l D cI cS _ a na nc N (mkL l_s l_t l_i l_kp l_iz l_z l_tp l_o0 l_o1 l_o2 y14_ko3 l_n0 l_n1 l_n2 y14_kn3) u (show TyX (mkL l_s l_t l_i l_kp l_iz l_z l_tp l_o0 l_o1 l_o2 y14_ko3 l_n0 l_n1 l_n2 y14_kn3) from ⟨(show Rg 0 12 l_s from rg_w g50008 (by decide) (by decide)), p_t, p_i, p_tp, p_n0, p_n1, p_n2, g14_kn3⟩) hN 3 (by decide) y14_l3 r50010) hKK hP hD hS hA 32 (ci := 6) rfl rfl (cwV 2 hts gX9_writeTo_X6_store rfl rfl rfl (by decide +kernel) ⟨Nat.le_of_ble_eq_true rfl, Nat.le_of_ble_eq_true rfl⟩) rfl hl.1 rfl (Nat.le_of_ble_eq_true rfl) dX9_writeTo_33 ⟨Nat.le_of_ble_eq_true rfl, Nat.le_of_ble_eq_true rfl⟩ (fun u H locs hr50011 hP hD hS => ?_)
        refine wk_iinc (lv' := fun r => [(3, .int r), (0, .ref (a 34)), (1, .ref (a 32))]) (e1 := 1) (f := 12) hx hb dX9_writeTo_36 hl (k := 2) rfl (by decide) g50009 (by decide) (fun _ => rfl) (fun r50012 ls hr50012 er50012 hl => ?_)
        refine lv_goto (tgt := 14) hx hb dX9_writeTo_39 (by decide) ?_
        exact ih14 r50012 y14_ko3 y14_kn3 u _ _ ls (show Rg 0 12 r50012 from rg_w hr50012 (by decide) (by decide)) g14_kn3 (show (y14_ko3.toInt = x0.toInt ∧ y14_kn3.toInt = l_s.toInt) from by have y90 : y14_l3.toInt < l_s.toInt := (lz_lt _ _).mp (rg_nle c50007); have y91 : Rg 1 12 l_s := g50008; have y92 : Rg 0 11 y14_l3 := g50009; have y93 : Rg 1 12 r50012 := hr50012; have y94 : Rg 1 12 l_s := g50008; have y95 : Rg 0 12 l_t := p_t; have y96 : Rg 0 12 l_i := p_i; have y97 : Rg 0 120 l_tp := p_tp; have y98 : Rg 0 40 l_n0 := p_n0; have y99 : Rg 0 40 l_n1 := p_n1; have y910 : Rg 0 40 l_n2 := p_n2; have y911 : Rg 0 40 y14_kn3 := g14_kn3; have y9c12 : (0 : Int32).toInt = 0 := (by decide); have y9c13 : (1 : Int32).toInt = 1 := (by decide); omega) hP hD hS (lv_sub (l' := [(0, .ref (a 34)), (1, .ref (a 32)), (3, .int r50012)]) hl [1, 2, 0] rfl) (me_up hm14 er50012 (by decide))
  refine lv_aload_n hx hb dX9_writeTo_0 rfl (lv_at hl 1 rfl) ?_
  refine lv_iload_n hx hb dX9_writeTo_1 rfl (lv_at hl 2 rfl) ?_
  refine lv_aload_n hx hb dX9_writeTo_2 rfl (lv_at hl 0 rfl) ?_
  refine va_get (D := D) (ci := 9) (v := .ref (a 1)) (C := RX9) (T := TX9) (N := 6) hx hb hts hin9 hown hK hP 34 rfl rfl 0 (by decide) (hts (.fieldLink RX9 21 "MissedPoints$Told" "net" "LMissedPoints$Net;") (by decide +kernel)) (fun _ h9 => h9) rfl dX9_writeTo_3 ?_
  refine va_getN (D := D) (ci := 2) (v := .int l_s) (C := RX2) (T := TX2) (N := 3) hx hb hts hin2 hown hK hP 1 rfl rfl 1 (by decide) (va_Nw.use rfl hKK.2.2.2.2.2.2.2.2.2.2.2.2.2.2.2.2.1) (fun _ h9 => h9) rfl dX9_writeTo_6 ?_
  refine wk_qv (S := Int32 × Int32 × SU) (fun q => wX cI cS a na nc N (mkL l_s l_t l_i l_kp l_iz l_z l_tp l_o0 l_o1 l_o2 q.1 l_n0 l_n1 l_n2 q.2.1) q.2.2) (l_o3, l_n3, u) (As := [.int x0, .int l_s]) (rest := []) ⟨hx, hb, hml, hown, hts⟩ (k_X6_become_3 l D cI cS _ a na nc N l_s l_t l_i l_kp l_iz l_z l_tp l_o0 l_o1 l_o2 l_o3 l_n0 l_n1 l_n2 l_n3 u (show TyX (mkL l_s l_t l_i l_kp l_iz l_z l_tp l_o0 l_o1 l_o2 l_o3 l_n0 l_n1 l_n2 l_n3) from ⟨p_s, p_t, p_i, p_tp, p_n0, p_n1, p_n2, p_n3⟩) hN x0 l_s) hKK hP hD hS hA 32 (ci := 6) rfl rfl (cwV 2 hts gX9_writeTo_X6_become rfl rfl rfl (by decide +kernel) ⟨Nat.le_of_ble_eq_true rfl, Nat.le_of_ble_eq_true rfl⟩) rfl hl.1 rfl (Nat.le_of_ble_eq_true rfl) dX9_writeTo_9 ⟨Nat.le_of_ble_eq_true rfl, Nat.le_of_ble_eq_true rfl⟩ (fun q9 H locs hr50013 hP hD hS => ?_)
  obtain ⟨r50014, r50015, u⟩ := q9
  have hr50013 : Rg 0 40 r50015 ∧ (r50014.toInt = x0.toInt ∧ (0 ≤ l_s.toInt → l_s.toInt ≤ 40 → r50015.toInt = l_s.toInt)) := hr50013
  have hP : va_P D cls (wX cI cS a na nc N (mkL l_s l_t l_i l_kp l_iz l_z l_tp l_o0 l_o1 l_o2 r50014 l_n0 l_n1 l_n2 r50015) u) H := hP
  have hD : va_D A (wX cI cS a na nc N (mkL l_s l_t l_i l_kp l_iz l_z l_tp l_o0 l_o1 l_o2 r50014 l_n0 l_n1 l_n2 r50015) u) := hD
  have kr50013_0 := hr50013.2
  refine lv_iconst (v := 0) hx hb dX9_writeTo_12 (by decide) ?_
  refine lv_istore_n (lv' := [(3, .int 0), (0, .ref (a 34)), (1, .ref (a 32)), (2, .int x0)]) hx hb dX9_writeTo_13 rfl hl (by decide) rfl (fun ls hl => ?_)
  exact lp14 13 (0 : Int32) r50014 r50015 u _ _ ls (by decide : Rg 0 12 (0 : Int32)) hr50013.1 (show (r50014.toInt = x0.toInt ∧ r50015.toInt = l_s.toInt) from by have y90 : Rg 0 12 l_s := p_s; have y91 : Rg 0 12 l_t := p_t; have y92 : Rg 0 12 l_i := p_i; have y93 : Rg 0 120 l_tp := p_tp; have y94 : Rg 0 40 l_n0 := p_n0; have y95 : Rg 0 40 l_n1 := p_n1; have y96 : Rg 0 40 l_n2 := p_n2; have y97 : Rg 0 40 r50015 := hr50013.1; have y9c8 : (0 : Int32).toInt = 0 := (by decide); have y9c9 : (1 : Int32).toInt = 1 := (by decide); omega) hP hD hS (lv_sub (l' := [(0, .ref (a 34)), (1, .ref (a 32)), (3, .int 0)]) hl [1, 2, 0] rfl) (me_i (by decide : Rg 0 12 (0 : Int32)) (by decide))
set_option maxRecDepth 20000 in
theorem ggX11_points_X2_add : GoodIn wsX11_points wsX2_add := goodIn_r _ [6, 7, 8, 9, 10, 11, 12, 29, 30, 31] rfl (by decide +kernel)
set_option maxRecDepth 20000 in
theorem gX11_points_X2_add : GoodIn wsX11_points (wsV RX11 101 RX2 yX2_add wsX2_add) := goodIn_app (goodIn_of _ (by decide +kernel)) ggX11_points_X2_add
theorem dX11_points_0 : decode cX11_points 0 = .ok (.iload_n 1, 1) := by decide +kernel
theorem dX11_points_1 : decode cX11_points 1 = .ok (.iconst 1, 1) := by decide +kernel
theorem dX11_points_11 : decode cX11_points 11 = .ok (.bipush (-2), 2) := by decide +kernel
theorem dX11_points_13 : decode cX11_points 13 = .ok (.ireturn, 1) := by decide +kernel
theorem dX11_points_14 : decode cX11_points 14 = .ok (.iload_n 1, 1) := by decide +kernel
theorem dX11_points_15 : decode cX11_points 15 = .ok (.bipush 12, 2) := by decide +kernel
theorem dX11_points_17 : decode cX11_points 17 = .ok (.aload_n 0, 1) := by decide +kernel
theorem dX11_points_18 : decode cX11_points 18 = .ok (.getfield 12, 3) := by decide +kernel
theorem dX11_points_2 : decode cX11_points 2 = .ok (.if_icmp .lt 9, 3) := by decide +kernel
theorem dX11_points_21 : decode cX11_points 21 = .ok (.getfield 97, 3) := by decide +kernel
theorem dX11_points_24 : decode cX11_points 24 = .ok (.isub, 1) := by decide +kernel
theorem dX11_points_25 : decode cX11_points 25 = .ok (.if_icmp .le 6, 3) := by decide +kernel
theorem dX11_points_28 : decode cX11_points 28 = .ok (.bipush (-4), 2) := by decide +kernel
theorem dX11_points_30 : decode cX11_points 30 = .ok (.ireturn, 1) := by decide +kernel
theorem dX11_points_31 : decode cX11_points 31 = .ok (.aload_n 0, 1) := by decide +kernel
theorem dX11_points_32 : decode cX11_points 32 = .ok (.getfield 12, 3) := by decide +kernel
theorem dX11_points_35 : decode cX11_points 35 = .ok (.iload_n 1, 1) := by decide +kernel
theorem dX11_points_36 : decode cX11_points 36 = .ok (.invokevirtual 101, 3) := by decide +kernel
theorem dX11_points_39 : decode cX11_points 39 = .ok (.aload_n 0, 1) := by decide +kernel
theorem dX11_points_40 : decode cX11_points 40 = .ok (.getfield 12, 3) := by decide +kernel
theorem dX11_points_43 : decode cX11_points 43 = .ok (.getfield 97, 3) := by decide +kernel
theorem dX11_points_46 : decode cX11_points 46 = .ok (.ireturn, 1) := by decide +kernel
theorem dX11_points_5 : decode cX11_points 5 = .ok (.iload_n 1, 1) := by decide +kernel
theorem dX11_points_6 : decode cX11_points 6 = .ok (.bipush 12, 2) := by decide +kernel
theorem dX11_points_8 : decode cX11_points 8 = .ok (.if_icmp .le 6, 3) := by decide +kernel
set_option maxHeartbeats 4000000 in
set_option maxRecDepth 100000 in
theorem k_X11_points (l : Launch) (D : va_G) (cI cS : ClassId) (sz : Nat) (a : Nat → Nat) (na nc N : Nat) (l_s l_t l_i l_kp l_iz l_z l_tp l_o0 l_o1 l_o2 l_o3 l_n0 l_n1 l_n2 l_n3 : Int32) (u0 : SU) (hL : TyX (mkL l_s l_t l_i l_kp l_iz l_z l_tp l_o0 l_o1 l_o2 l_o3 l_n0 l_n1 l_n2 l_n3)) (hN : N = 0 ∨ N = 24576) (x0 : Int32) : Met l yX11_points wsX11_points ({ frames := 2, cells := 0, slots := 0, locals := 80 }) (PQ D cI cS (wX cI cS a na nc N (mkL l_s l_t l_i l_kp l_iz l_z l_tp l_o0 l_o1 l_o2 l_o3 l_n0 l_n1 l_n2 l_n3) u0) sz [.ref (a 0), .int x0]) (QF (S := Int32 × SU) D (wX cI cS a na nc N (mkL l_s l_t l_i l_kp l_iz l_z l_tp l_o0 l_o1 l_o2 l_o3 l_n0 l_n1 l_n2 l_n3) u0) (fun q => wX cI cS a na nc N (mkL q.1 l_t l_i l_kp l_iz l_z l_tp l_o0 l_o1 l_o2 l_o3 l_n0 l_n1 l_n2 l_n3) q.2) sz (fun r q => Rg (-4) 12 r ∧ Rg 0 12 q.1 ∧ ((x0.toInt < 1 ∨ 12 < x0.toInt → r.toInt = -2 ∧ q.1.toInt = l_s.toInt) ∧ (1 ≤ x0.toInt → x0.toInt ≤ 12 → 12 < l_s.toInt + x0.toInt → r.toInt = -4 ∧ q.1.toInt = l_s.toInt) ∧ (1 ≤ x0.toInt → x0.toInt ≤ 12 → l_s.toInt + x0.toInt ≤ 12 → r.toInt = l_s.toInt + x0.toInt ∧ q.1.toInt = l_s.toInt + x0.toInt)))) 0 0 (va_A (wX cI cS a na nc N (mkL l_s l_t l_i l_kp l_iz l_z l_tp l_o0 l_o1 l_o2 l_o3 l_n0 l_n1 l_n2 l_n3) u0) sz) := by
  refine Met.ofW (cc := cX11_points) (maxL := 2) (ret := (some .int)) (by decide) rfl ?_
  intro p e s m args below meth c s₁ B hml hv
  obtain ⟨rfl, hsz, hP, hKK, hD0⟩ := hv
  have hx := B.exec
  have hb := B.bytes
  have hr := B.returns
  have hts := atoms_spec (ws := wsX11_points) B.pre
  have hown : s.vm.findClass RX11 = some m.cls := findClass_of_methodNamed B.named
  have hlocks := B.notSynchronized
  have hK := hKK.1
  have hin2 : ∀ w ∈ wsX20, w ∈ wsX11_points := by decide +kernel
  have hin11 : ∀ w ∈ wsX110, w ∈ wsX11_points := by decide +kernel
  subst hsz
  have hD := hD0.self (sz := s.heap.size)
  obtain ⟨A, hAe⟩ : ∃ A, A = va_A (wX cI cS a na nc N (mkL l_s l_t l_i l_kp l_iz l_z l_tp l_o0 l_o1 l_o2 l_o3 l_n0 l_n1 l_n2 l_n3) u0) s.heap.size := ⟨_, rfl⟩
  rw [← hAe] at hD
  have hA : ∀ q : Nat, s.heap.size ≤ q → A q := fun q h => by rw [hAe]; exact Or.inr h
  have hS : va_S A s.heap s.heap [] := va_S.rf
  have hl := lv_entry ([.ref (a 0), .int x0]) (n := 2) (Nat.le_of_ble_eq_true rfl)
  rw [lg_entry_eq]
  generalize (lg_sl ([.ref (a 0), .int x0]) ++ List.replicate (2 - (lg_sl ([.ref (a 0), .int x0])).length) Slot.unset).toArray = ls at hl ⊢
  have hl : lv_has ls 2 [(0, .ref (a 0)), (1, .int x0)] := hl
  obtain ⟨u, hu9⟩ : ∃ u : SU, u = u0 := ⟨_, rfl⟩
  rw [← hu9] at hP hD
  have p_s : Rg 0 12 l_s := hL.1
  have p_t : Rg 0 12 l_t := hL.2.1
  have p_i : Rg 0 12 l_i := hL.2.2.1
  have p_tp : Rg 0 120 l_tp := hL.2.2.2.1
  have p_n0 : Rg 0 40 l_n0 := hL.2.2.2.2.1
  have p_n1 : Rg 0 40 l_n1 := hL.2.2.2.2.2.1
  have p_n2 : Rg 0 40 l_n2 := hL.2.2.2.2.2.2.1
  have p_n3 : Rg 0 40 l_n3 := hL.2.2.2.2.2.2.2
  refine lv_iload_n hx hb dX11_points_0 rfl (lv_at hl 1 rfl) ?_
  refine lv_iconst (v := 1) hx hb dX11_points_1 (by decide) ?_
  refine lv_icmp_lt (tgt := 11) hx hb dX11_points_2 (by decide) (fun c50028 => ?_) (fun c50028 => ?_)
  · have g50029 : Rg (-2147483648) 0 x0 := rg_ltl (rg_any x0) (by decide : Rg 1 1 (1 : Int32)) c50028 (by decide)
    refine lv_bipush (v := (-2)) hx hb dX11_points_11 (by decide) ?_
    subst hAe
    exact W.iret (v := (-2)) hx hb hr (fun t ht hW => ⟨⟨_, (l_s, u), rfl, ⟨(by decide : Rg (-4) 12 ((-2) : Int32)), p_s, (show (x0.toInt < 1 ∨ 12 < x0.toInt → ((-2) : Int32).toInt = -2 ∧ l_s.toInt = l_s.toInt) ∧ (1 ≤ x0.toInt → x0.toInt ≤ 12 → 12 < l_s.toInt + x0.toInt → ((-2) : Int32).toInt = -4 ∧ l_s.toInt = l_s.toInt) ∧ (1 ≤ x0.toInt → x0.toInt ≤ 12 → l_s.toInt + x0.toInt ≤ 12 → ((-2) : Int32).toInt = l_s.toInt + x0.toInt ∧ l_s.toInt = l_s.toInt + x0.toInt) from by have y90 : x0.toInt < (1 : Int32).toInt := (lz_lt _ _).mp c50028; have y91 : Rg (-2147483648) 0 x0 := g50029; have y92 : Rg (-2147483648) 0 x0 := g50029; have y93 : Rg 0 12 l_s := p_s; have y94 : Rg 0 12 l_t := p_t; have y95 : Rg 0 12 l_i := p_i; have y96 : Rg 0 120 l_tp := p_tp; have y97 : Rg 0 40 l_n0 := p_n0; have y98 : Rg 0 40 l_n1 := p_n1; have y99 : Rg 0 40 l_n2 := p_n2; have y910 : Rg 0 40 l_n3 := p_n3; have y9c11 : ((-2) : Int32).toInt = -2 := (by decide); have y9c12 : (0 : Int32).toInt = 0 := (by decide); have y9c13 : (1 : Int32).toInt = 1 := (by decide); omega)⟩, by rw [ht]; exact hP, hD⟩, hS.F ht⟩) hS.2.2 dX11_points_13
  · have g50030 : Rg 1 2147483647 x0 := rg_ler (by decide : Rg 1 1 (1 : Int32)) (rg_any x0) (rg_nlt c50028) (by decide)
    refine lv_iload_n hx hb dX11_points_5 rfl (lv_at hl 1 rfl) ?_
    refine lv_bipush (v := 12) hx hb dX11_points_6 (by decide) ?_
    refine lv_icmp_le (tgt := 14) hx hb dX11_points_8 (by decide) (fun c50031 => ?_) (fun c50031 => ?_)
    · have g50032 : Rg 1 12 x0 := rg_lel g50030 (by decide : Rg 12 12 (12 : Int32)) c50031 (by decide)
      refine lv_iload_n hx hb dX11_points_14 rfl (lv_at hl 1 rfl) ?_
      refine lv_bipush (v := 12) hx hb dX11_points_15 (by decide) ?_
      refine lv_aload_n hx hb dX11_points_17 rfl (lv_at hl 0 rfl) ?_
      refine va_get (D := D) (ci := 11) (v := .ref (a 1)) (C := RX11) (T := TX11) (N := 16) hx hb hts hin11 hown hK hP 0 rfl rfl 0 (by decide) (hts (.fieldLink RX11 12 "MissedPoints" "net" "LMissedPoints$Net;") (by decide +kernel)) (fun _ h9 => h9) rfl dX11_points_18 ?_
      refine va_getN (D := D) (ci := 2) (v := .int l_s) (C := RX2) (T := TX2) (N := 3) hx hb hts hin2 hown hK hP 1 rfl rfl 1 (by decide) (va_Nw.use rfl hKK.2.2.2.2.2.2.2.2.2.2.1) (fun _ h9 => h9) rfl dX11_points_21 ?_
      refine wk_isub (e1 := 0) (f := 12) hx hb dX11_points_24 (by decide : Rg 12 12 (12 : Int32)) p_s (by decide) (fun r50033 hr50033 er50033 qr50033 => ?_)
      refine lv_icmp_le (tgt := 31) hx hb dX11_points_25 (by decide) (fun c50034 => ?_) (fun c50034 => ?_)
      · have g50035 : Rg 1 12 r50033 := rg_ler g50032 hr50033 c50034 (by decide)
        refine lv_aload_n hx hb dX11_points_31 rfl (lv_at hl 0 rfl) ?_
        refine va_get (D := D) (ci := 11) (v := .ref (a 1)) (C := RX11) (T := TX11) (N := 16) hx hb hts hin11 hown hK hP 0 rfl rfl 0 (by decide) (hts (.fieldLink RX11 12 "MissedPoints" "net" "LMissedPoints$Net;") (by decide +kernel)) (fun _ h9 => h9) rfl dX11_points_32 ?_
        refine lv_iload_n hx hb dX11_points_35 rfl (lv_at hl 1 rfl) ?_
        refine wk_qv (S := Int32 × SU) (fun q => wX cI cS a na nc N (mkL q.1 l_t l_i l_kp l_iz l_z l_tp l_o0 l_o1 l_o2 l_o3 l_n0 l_n1 l_n2 l_n3) q.2) (l_s, u) (As := [.int x0]) (rest := []) ⟨hx, hb, hml, hown, hts⟩ (k_X2_add l D cI cS _ a na nc N l_s l_t l_i l_kp l_iz l_z l_tp l_o0 l_o1 l_o2 l_o3 l_n0 l_n1 l_n2 l_n3 u (show TyX (mkL l_s l_t l_i l_kp l_iz l_z l_tp l_o0 l_o1 l_o2 l_o3 l_n0 l_n1 l_n2 l_n3) from ⟨p_s, p_t, p_i, p_tp, p_n0, p_n1, p_n2, p_n3⟩) hN x0 (show Rg 0 12 x0 from rg_w g50032 (by decide) (by decide))) hKK hP hD hS hA 1 (ci := 2) rfl rfl (cwV 1 hts gX11_points_X2_add rfl rfl rfl (by decide +kernel) ⟨Nat.le_of_ble_eq_true rfl, Nat.le_of_ble_eq_true rfl⟩) rfl hl.1 rfl (Nat.le_of_ble_eq_true rfl) dX11_points_36 ⟨Nat.le_of_ble_eq_true rfl, Nat.le_of_ble_eq_true rfl⟩ (fun q9 H locs hr50036 hP hD hS => ?_)
        obtain ⟨r50037, u⟩ := q9
        have hr50036 : Rg 0 12 r50037 ∧ ((l_s.toInt + x0.toInt ≤ 12 → r50037.toInt = l_s.toInt + x0.toInt)) := hr50036
        have hP : va_P D cls (wX cI cS a na nc N (mkL r50037 l_t l_i l_kp l_iz l_z l_tp l_o0 l_o1 l_o2 l_o3 l_n0 l_n1 l_n2 l_n3) u) H := hP
        have hD : va_D A (wX cI cS a na nc N (mkL r50037 l_t l_i l_kp l_iz l_z l_tp l_o0 l_o1 l_o2 l_o3 l_n0 l_n1 l_n2 l_n3) u) := hD
        have kr50036_0 := hr50036.2
        refine lv_aload_n hx hb dX11_points_39 rfl (lv_at hl 0 rfl) ?_
        refine va_get (D := D) (ci := 11) (v := .ref (a 1)) (C := RX11) (T := TX11) (N := 16) hx hb hts hin11 hown hK hP 0 rfl rfl 0 (by decide) (hts (.fieldLink RX11 12 "MissedPoints" "net" "LMissedPoints$Net;") (by decide +kernel)) (fun _ h9 => h9) rfl dX11_points_40 ?_
        refine va_getN (D := D) (ci := 2) (v := .int r50037) (C := RX2) (T := TX2) (N := 3) hx hb hts hin2 hown hK hP 1 rfl rfl 1 (by decide) (va_Nw.use rfl hKK.2.2.2.2.2.2.2.2.2.2.1) (fun _ h9 => h9) rfl dX11_points_43 ?_
        subst hAe
        exact W.iret (v := r50037) hx hb hr (fun t ht hW => ⟨⟨_, (r50037, u), rfl, ⟨(show Rg (-4) 12 r50037 from rg_w hr50036.1 (by decide) (by decide)), hr50036.1, (show (x0.toInt < 1 ∨ 12 < x0.toInt → r50037.toInt = -2 ∧ r50037.toInt = l_s.toInt) ∧ (1 ≤ x0.toInt → x0.toInt ≤ 12 → 12 < l_s.toInt + x0.toInt → r50037.toInt = -4 ∧ r50037.toInt = l_s.toInt) ∧ (1 ≤ x0.toInt → x0.toInt ≤ 12 → l_s.toInt + x0.toInt ≤ 12 → r50037.toInt = l_s.toInt + x0.toInt ∧ r50037.toInt = l_s.toInt + x0.toInt) from by have y90 : (1 : Int32).toInt ≤ x0.toInt := (lz_le _ _).mp (rg_nlt c50028); have y91 : x0.toInt ≤ (12 : Int32).toInt := (lz_le _ _).mp c50031; have y92 : x0.toInt ≤ r50033.toInt := (lz_le _ _).mp c50034; have y93 : Rg 1 12 x0 := g50032; have y94 : Rg 1 12 r50033 := g50035; have y95 : Rg 1 12 x0 := g50032; have y96 : Rg 0 12 r50037 := hr50036.1; have y97 : Rg 0 12 r50037 := hr50036.1; have y98 : Rg 0 12 l_t := p_t; have y99 : Rg 0 12 l_i := p_i; have y910 : Rg 0 120 l_tp := p_tp; have y911 : Rg 0 40 l_n0 := p_n0; have y912 : Rg 0 40 l_n1 := p_n1; have y913 : Rg 0 40 l_n2 := p_n2; have y914 : Rg 0 40 l_n3 := p_n3; have y915 : Rg 0 12 r50037 := hr50036.1; have y9c16 : (0 : Int32).toInt = 0 := (by decide); have y9c17 : (1 : Int32).toInt = 1 := (by decide); have y9c18 : (12 : Int32).toInt = 12 := (by decide); omega)⟩, by rw [ht]; exact hP, hD⟩, hS.F ht⟩) hS.2.2 dX11_points_46
      · have g50038 : Rg 0 11 r50033 := rg_ltl hr50033 g50032 (rg_nle c50034) (by decide)
        refine lv_bipush (v := (-4)) hx hb dX11_points_28 (by decide) ?_
        subst hAe
        exact W.iret (v := (-4)) hx hb hr (fun t ht hW => ⟨⟨_, (l_s, u), rfl, ⟨(by decide : Rg (-4) 12 ((-4) : Int32)), p_s, (show (x0.toInt < 1 ∨ 12 < x0.toInt → ((-4) : Int32).toInt = -2 ∧ l_s.toInt = l_s.toInt) ∧ (1 ≤ x0.toInt → x0.toInt ≤ 12 → 12 < l_s.toInt + x0.toInt → ((-4) : Int32).toInt = -4 ∧ l_s.toInt = l_s.toInt) ∧ (1 ≤ x0.toInt → x0.toInt ≤ 12 → l_s.toInt + x0.toInt ≤ 12 → ((-4) : Int32).toInt = l_s.toInt + x0.toInt ∧ l_s.toInt = l_s.toInt + x0.toInt) from by have y90 : (1 : Int32).toInt ≤ x0.toInt := (lz_le _ _).mp (rg_nlt c50028); have y91 : x0.toInt ≤ (12 : Int32).toInt := (lz_le _ _).mp c50031; have y92 : r50033.toInt < x0.toInt := (lz_lt _ _).mp (rg_nle c50034); have y93 : Rg 1 12 x0 := g50032; have y94 : Rg 0 11 r50033 := g50038; have y95 : Rg 1 12 x0 := g50032; have y96 : Rg 0 12 l_s := p_s; have y97 : Rg 0 12 l_t := p_t; have y98 : Rg 0 12 l_i := p_i; have y99 : Rg 0 120 l_tp := p_tp; have y910 : Rg 0 40 l_n0 := p_n0; have y911 : Rg 0 40 l_n1 := p_n1; have y912 : Rg 0 40 l_n2 := p_n2; have y913 : Rg 0 40 l_n3 := p_n3; have y9c14 : ((-4) : Int32).toInt = -4 := (by decide); have y9c15 : (0 : Int32).toInt = 0 := (by decide); have y9c16 : (1 : Int32).toInt = 1 := (by decide); have y9c17 : (12 : Int32).toInt = 12 := (by decide); omega)⟩, by rw [ht]; exact hP, hD⟩, hS.F ht⟩) hS.2.2 dX11_points_30
    · have g50039 : Rg 13 2147483647 x0 := rg_ltr (by decide : Rg 12 12 (12 : Int32)) g50030 (rg_nle c50031) (by decide)
      refine lv_bipush (v := (-2)) hx hb dX11_points_11 (by decide) ?_
      subst hAe
      exact W.iret (v := (-2)) hx hb hr (fun t ht hW => ⟨⟨_, (l_s, u), rfl, ⟨(by decide : Rg (-4) 12 ((-2) : Int32)), p_s, (show (x0.toInt < 1 ∨ 12 < x0.toInt → ((-2) : Int32).toInt = -2 ∧ l_s.toInt = l_s.toInt) ∧ (1 ≤ x0.toInt → x0.toInt ≤ 12 → 12 < l_s.toInt + x0.toInt → ((-2) : Int32).toInt = -4 ∧ l_s.toInt = l_s.toInt) ∧ (1 ≤ x0.toInt → x0.toInt ≤ 12 → l_s.toInt + x0.toInt ≤ 12 → ((-2) : Int32).toInt = l_s.toInt + x0.toInt ∧ l_s.toInt = l_s.toInt + x0.toInt) from by have y90 : (1 : Int32).toInt ≤ x0.toInt := (lz_le _ _).mp (rg_nlt c50028); have y91 : (12 : Int32).toInt < x0.toInt := (lz_lt _ _).mp (rg_nle c50031); have y92 : Rg 13 2147483647 x0 := g50039; have y93 : Rg 13 2147483647 x0 := g50039; have y94 : Rg 0 12 l_s := p_s; have y95 : Rg 0 12 l_t := p_t; have y96 : Rg 0 12 l_i := p_i; have y97 : Rg 0 120 l_tp := p_tp; have y98 : Rg 0 40 l_n0 := p_n0; have y99 : Rg 0 40 l_n1 := p_n1; have y910 : Rg 0 40 l_n2 := p_n2; have y911 : Rg 0 40 l_n3 := p_n3; have y9c12 : ((-2) : Int32).toInt = -2 := (by decide); have y9c13 : (0 : Int32).toInt = 0 := (by decide); have y9c14 : (1 : Int32).toInt = 1 := (by decide); have y9c15 : (12 : Int32).toInt = 12 := (by decide); omega)⟩, by rw [ht]; exact hP, hD⟩, hS.F ht⟩) hS.2.2 dX11_points_13
set_option maxRecDepth 20000 in
theorem ggX11_wipe_X8_clear : GoodIn wsX11_wipe wsX8_clear := goodIn_r _ [6, 7, 24, 25] rfl (by decide +kernel)
set_option maxRecDepth 20000 in
theorem gX11_wipe_X8_clear : GoodIn wsX11_wipe (wsV RX11 265 RX8 yX8_clear wsX8_clear) := goodIn_app (goodIn_of _ (by decide +kernel)) ggX11_wipe_X8_clear
theorem dX11_wipe_0 : decode cX11_wipe 0 = .ok (.aload_n 0, 1) := by decide +kernel
theorem dX11_wipe_1 : decode cX11_wipe 1 = .ok (.getfield 60, 3) := by decide +kernel
theorem dX11_wipe_4 : decode cX11_wipe 4 = .ok (.invokevirtual 265, 3) := by decide +kernel
theorem dX11_wipe_7 : decode cX11_wipe 7 = .ok (.ireturn, 1) := by decide +kernel
set_option maxHeartbeats 4000000 in
set_option maxRecDepth 100000 in
theorem k_X11_wipe (l : Launch) (D : va_G) (cI cS : ClassId) (sz : Nat) (a : Nat → Nat) (na nc N : Nat) (l_s l_t l_i l_kp l_iz l_z l_tp l_o0 l_o1 l_o2 l_o3 l_n0 l_n1 l_n2 l_n3 : Int32) (u0 : SU) (hL : TyX (mkL l_s l_t l_i l_kp l_iz l_z l_tp l_o0 l_o1 l_o2 l_o3 l_n0 l_n1 l_n2 l_n3)) (hN : N = 0 ∨ N = 24576) : Met l yX11_wipe wsX11_wipe ({ frames := 1, cells := 0, slots := 0, locals := 40 }) (PQ D cI cS (wX cI cS a na nc N (mkL l_s l_t l_i l_kp l_iz l_z l_tp l_o0 l_o1 l_o2 l_o3 l_n0 l_n1 l_n2 l_n3) u0) sz [.ref (a 0)]) (QF (S := Int32 × SU) D (wX cI cS a na nc N (mkL l_s l_t l_i l_kp l_iz l_z l_tp l_o0 l_o1 l_o2 l_o3 l_n0 l_n1 l_n2 l_n3) u0) (fun q => wX cI cS a na nc N (mkL l_s l_t l_i l_kp l_iz l_z q.1 l_o0 l_o1 l_o2 l_o3 l_n0 l_n1 l_n2 l_n3) q.2) sz (fun r q => Rg 0 120 r ∧ Rg 0 0 q.1 ∧ (r.toInt = l_tp.toInt ∧ q.1.toInt = 0))) 0 0 (va_A (wX cI cS a na nc N (mkL l_s l_t l_i l_kp l_iz l_z l_tp l_o0 l_o1 l_o2 l_o3 l_n0 l_n1 l_n2 l_n3) u0) sz) := by
  refine Met.ofW (cc := cX11_wipe) (maxL := 1) (ret := (some .int)) (by decide) rfl ?_
  intro p e s m args below meth c s₁ B hml hv
  obtain ⟨rfl, hsz, hP, hKK, hD0⟩ := hv
  have hx := B.exec
  have hb := B.bytes
  have hr := B.returns
  have hts := atoms_spec (ws := wsX11_wipe) B.pre
  have hown : s.vm.findClass RX11 = some m.cls := findClass_of_methodNamed B.named
  have hlocks := B.notSynchronized
  have hK := hKK.1
  have hin11 : ∀ w ∈ wsX110, w ∈ wsX11_wipe := by decide +kernel
  subst hsz
  have hD := hD0.self (sz := s.heap.size)
  obtain ⟨A, hAe⟩ : ∃ A, A = va_A (wX cI cS a na nc N (mkL l_s l_t l_i l_kp l_iz l_z l_tp l_o0 l_o1 l_o2 l_o3 l_n0 l_n1 l_n2 l_n3) u0) s.heap.size := ⟨_, rfl⟩
  rw [← hAe] at hD
  have hA : ∀ q : Nat, s.heap.size ≤ q → A q := fun q h => by rw [hAe]; exact Or.inr h
  have hS : va_S A s.heap s.heap [] := va_S.rf
  have hl := lv_entry ([.ref (a 0)]) (n := 1) (Nat.le_of_ble_eq_true rfl)
  rw [lg_entry_eq]
  generalize (lg_sl ([.ref (a 0)]) ++ List.replicate (1 - (lg_sl ([.ref (a 0)])).length) Slot.unset).toArray = ls at hl ⊢
  have hl : lv_has ls 1 [(0, .ref (a 0))] := hl
  obtain ⟨u, hu9⟩ : ∃ u : SU, u = u0 := ⟨_, rfl⟩
  rw [← hu9] at hP hD
  have p_s : Rg 0 12 l_s := hL.1
  have p_t : Rg 0 12 l_t := hL.2.1
  have p_i : Rg 0 12 l_i := hL.2.2.1
  have p_tp : Rg 0 120 l_tp := hL.2.2.2.1
  have p_n0 : Rg 0 40 l_n0 := hL.2.2.2.2.1
  have p_n1 : Rg 0 40 l_n1 := hL.2.2.2.2.2.1
  have p_n2 : Rg 0 40 l_n2 := hL.2.2.2.2.2.2.1
  have p_n3 : Rg 0 40 l_n3 := hL.2.2.2.2.2.2.2
  refine lv_aload_n hx hb dX11_wipe_0 rfl (lv_at hl 0 rfl) ?_
  refine va_get (D := D) (ci := 11) (v := .ref (a 21)) (C := RX11) (T := TX11) (N := 16) hx hb hts hin11 hown hK hP 0 rfl rfl 10 (by decide) (hts (.fieldLink RX11 60 "MissedPoints" "tape" "LMissedPoints$Tape;") (by decide +kernel)) (fun _ h9 => h9) rfl dX11_wipe_1 ?_
  refine wk_qi (S := Int32 × SU) (fun q => wX cI cS a na nc N (mkL l_s l_t l_i l_kp l_iz l_z q.1 l_o0 l_o1 l_o2 l_o3 l_n0 l_n1 l_n2 l_n3) q.2) (l_tp, u) (As := []) (rest := []) ⟨hx, hb, hml, hown, hts⟩ (k_X8_clear l D cI cS _ a na nc N l_s l_t l_i l_kp l_iz l_z l_tp l_o0 l_o1 l_o2 l_o3 l_n0 l_n1 l_n2 l_n3 u (show TyX (mkL l_s l_t l_i l_kp l_iz l_z l_tp l_o0 l_o1 l_o2 l_o3 l_n0 l_n1 l_n2 l_n3) from ⟨p_s, p_t, p_i, p_tp, p_n0, p_n1, p_n2, p_n3⟩) hN) hKK hP hD hS hA 21 (ci := 8) rfl rfl (cwV 0 hts gX11_wipe_X8_clear rfl rfl rfl (by decide +kernel) ⟨Nat.le_of_ble_eq_true rfl, Nat.le_of_ble_eq_true rfl⟩) rfl hl.1 rfl (Nat.le_of_ble_eq_true rfl) dX11_wipe_4 ⟨Nat.le_of_ble_eq_true rfl, Nat.le_of_ble_eq_true rfl⟩ (fun r50042 q9 H locs hr50042 hP hD hS => ?_)
  obtain ⟨r50043, u⟩ := q9
  have hr50042 : Rg 0 120 r50042 ∧ Rg 0 0 r50043 ∧ (r50042.toInt = l_tp.toInt ∧ r50043.toInt = 0) := hr50042
  have hP : va_P D cls (wX cI cS a na nc N (mkL l_s l_t l_i l_kp l_iz l_z r50043 l_o0 l_o1 l_o2 l_o3 l_n0 l_n1 l_n2 l_n3) u) H := hP
  have hD : va_D A (wX cI cS a na nc N (mkL l_s l_t l_i l_kp l_iz l_z r50043 l_o0 l_o1 l_o2 l_o3 l_n0 l_n1 l_n2 l_n3) u) := hD
  have kr50042_0 := hr50042.2.2
  subst hAe
  exact W.iret (v := r50042) hx hb hr (fun t ht hW => ⟨⟨_, (r50043, u), rfl, ⟨hr50042.1, hr50042.2.1, (show r50042.toInt = l_tp.toInt ∧ r50043.toInt = 0 from by have y90 : Rg 0 120 r50042 := hr50042.1; have y91 : Rg 0 12 l_s := p_s; have y92 : Rg 0 12 l_t := p_t; have y93 : Rg 0 12 l_i := p_i; have y94 : Rg 0 0 r50043 := hr50042.2.1; have y95 : Rg 0 40 l_n0 := p_n0; have y96 : Rg 0 40 l_n1 := p_n1; have y97 : Rg 0 40 l_n2 := p_n2; have y98 : Rg 0 40 l_n3 := p_n3; have y99 : Rg 0 120 r50042 := hr50042.1; have y9c10 : (0 : Int32).toInt = 0 := (by decide); have y9c11 : (1 : Int32).toInt = 1 := (by decide); omega)⟩, by rw [ht]; exact hP, hD⟩, hS.F ht⟩) hS.2.2 dX11_wipe_7
set_option maxRecDepth 20000 in
theorem ggX11_feed_X8_append : GoodIn wsX11_feed wsX8_append := goodIn_r _ [6, 7, 8, 25, 26] rfl (by decide +kernel)
set_option maxRecDepth 20000 in
theorem gX11_feed_X8_append : GoodIn wsX11_feed (wsV RX11 262 RX8 yX8_append wsX8_append) := goodIn_app (goodIn_of _ (by decide +kernel)) ggX11_feed_X8_append
theorem dX11_feed_0 : decode cX11_feed 0 = .ok (.iload_n 2, 1) := by decide +kernel
theorem dX11_feed_1 : decode cX11_feed 1 = .ok (.iconst 1, 1) := by decide +kernel
theorem dX11_feed_10 : decode cX11_feed 10 = .ok (.bipush (-2), 2) := by decide +kernel
theorem dX11_feed_12 : decode cX11_feed 12 = .ok (.ireturn, 1) := by decide +kernel
theorem dX11_feed_13 : decode cX11_feed 13 = .ok (.iload_n 2, 1) := by decide +kernel
theorem dX11_feed_14 : decode cX11_feed 14 = .ok (.bipush 120, 2) := by decide +kernel
theorem dX11_feed_16 : decode cX11_feed 16 = .ok (.aload_n 0, 1) := by decide +kernel
theorem dX11_feed_17 : decode cX11_feed 17 = .ok (.getfield 60, 3) := by decide +kernel
theorem dX11_feed_2 : decode cX11_feed 2 = .ok (.if_icmp .lt 8, 3) := by decide +kernel
theorem dX11_feed_20 : decode cX11_feed 20 = .ok (.getfield 140, 3) := by decide +kernel
theorem dX11_feed_23 : decode cX11_feed 23 = .ok (.isub, 1) := by decide +kernel
theorem dX11_feed_24 : decode cX11_feed 24 = .ok (.if_icmp .le 6, 3) := by decide +kernel
theorem dX11_feed_27 : decode cX11_feed 27 = .ok (.bipush (-4), 2) := by decide +kernel
theorem dX11_feed_29 : decode cX11_feed 29 = .ok (.ireturn, 1) := by decide +kernel
theorem dX11_feed_30 : decode cX11_feed 30 = .ok (.iload_n 2, 1) := by decide +kernel
theorem dX11_feed_31 : decode cX11_feed 31 = .ok (.iconst 1, 1) := by decide +kernel
theorem dX11_feed_32 : decode cX11_feed 32 = .ok (.isub, 1) := by decide +kernel
theorem dX11_feed_33 : decode cX11_feed 33 = .ok (.istore_n 3, 1) := by decide +kernel
theorem dX11_feed_34 : decode cX11_feed 34 = .ok (.iload_n 3, 1) := by decide +kernel
theorem dX11_feed_35 : decode cX11_feed 35 = .ok (.ifCond .lt 26, 3) := by decide +kernel
theorem dX11_feed_38 : decode cX11_feed 38 = .ok (.aload_n 0, 1) := by decide +kernel
theorem dX11_feed_39 : decode cX11_feed 39 = .ok (.getfield 60, 3) := by decide +kernel
theorem dX11_feed_42 : decode cX11_feed 42 = .ok (.iload_n 1, 1) := by decide +kernel
theorem dX11_feed_43 : decode cX11_feed 43 = .ok (.bipush 8, 2) := by decide +kernel
theorem dX11_feed_45 : decode cX11_feed 45 = .ok (.iload_n 3, 1) := by decide +kernel
theorem dX11_feed_46 : decode cX11_feed 46 = .ok (.imul, 1) := by decide +kernel
theorem dX11_feed_47 : decode cX11_feed 47 = .ok (.iushr, 1) := by decide +kernel
theorem dX11_feed_48 : decode cX11_feed 48 = .ok (.sipush 255, 3) := by decide +kernel
theorem dX11_feed_5 : decode cX11_feed 5 = .ok (.iload_n 2, 1) := by decide +kernel
theorem dX11_feed_51 : decode cX11_feed 51 = .ok (.iand, 1) := by decide +kernel
theorem dX11_feed_52 : decode cX11_feed 52 = .ok (.invokevirtual 262, 3) := by decide +kernel
theorem dX11_feed_55 : decode cX11_feed 55 = .ok (.iinc 3 (-1), 3) := by decide +kernel
theorem dX11_feed_58 : decode cX11_feed 58 = .ok (.goto (-24), 3) := by decide +kernel
theorem dX11_feed_6 : decode cX11_feed 6 = .ok (.iconst 4, 1) := by decide +kernel
theorem dX11_feed_61 : decode cX11_feed 61 = .ok (.aload_n 0, 1) := by decide +kernel
theorem dX11_feed_62 : decode cX11_feed 62 = .ok (.getfield 60, 3) := by decide +kernel
theorem dX11_feed_65 : decode cX11_feed 65 = .ok (.getfield 140, 3) := by decide +kernel
theorem dX11_feed_68 : decode cX11_feed 68 = .ok (.ireturn, 1) := by decide +kernel
theorem dX11_feed_7 : decode cX11_feed 7 = .ok (.if_icmp .le 6, 3) := by decide +kernel
set_option maxHeartbeats 4000000 in
set_option maxRecDepth 100000 in
theorem k_X11_feed (l : Launch) (D : va_G) (cI cS : ClassId) (sz : Nat) (a : Nat → Nat) (na nc N : Nat) (l_s l_t l_i l_kp l_iz l_z l_tp l_o0 l_o1 l_o2 l_o3 l_n0 l_n1 l_n2 l_n3 : Int32) (u0 : SU) (hL : TyX (mkL l_s l_t l_i l_kp l_iz l_z l_tp l_o0 l_o1 l_o2 l_o3 l_n0 l_n1 l_n2 l_n3)) (hN : N = 0 ∨ N = 24576) (x0 x1 : Int32) : Met l yX11_feed wsX11_feed ({ frames := 1, cells := 0, slots := 0, locals := 40 }) (PQ D cI cS (wX cI cS a na nc N (mkL l_s l_t l_i l_kp l_iz l_z l_tp l_o0 l_o1 l_o2 l_o3 l_n0 l_n1 l_n2 l_n3) u0) sz [.ref (a 0), .int x0, .int x1]) (QF (S := Int32 × SU) D (wX cI cS a na nc N (mkL l_s l_t l_i l_kp l_iz l_z l_tp l_o0 l_o1 l_o2 l_o3 l_n0 l_n1 l_n2 l_n3) u0) (fun q => wX cI cS a na nc N (mkL l_s l_t l_i l_kp l_iz l_z q.1 l_o0 l_o1 l_o2 l_o3 l_n0 l_n1 l_n2 l_n3) q.2) sz (fun r q => Rg (-4) 120 r ∧ Rg 0 120 q.1 ∧ ((x1.toInt < 1 ∨ 4 < x1.toInt → r.toInt = -2 ∧ q.1.toInt = l_tp.toInt) ∧ (1 ≤ x1.toInt → x1.toInt ≤ 4 → 120 < l_tp.toInt + x1.toInt → r.toInt = -4 ∧ q.1.toInt = l_tp.toInt) ∧ (1 ≤ x1.toInt → x1.toInt ≤ 4 → l_tp.toInt + x1.toInt ≤ 120 → r.toInt = l_tp.toInt + x1.toInt ∧ q.1.toInt = l_tp.toInt + x1.toInt)))) 0 0 (va_A (wX cI cS a na nc N (mkL l_s l_t l_i l_kp l_iz l_z l_tp l_o0 l_o1 l_o2 l_o3 l_n0 l_n1 l_n2 l_n3) u0) sz) := by
  refine Met.ofW (cc := cX11_feed) (maxL := 4) (ret := (some .int)) (by decide) rfl ?_
  intro p e s m args below meth c s₁ B hml hv
  obtain ⟨rfl, hsz, hP, hKK, hD0⟩ := hv
  have hx := B.exec
  have hb := B.bytes
  have hr := B.returns
  have hts := atoms_spec (ws := wsX11_feed) B.pre
  have hown : s.vm.findClass RX11 = some m.cls := findClass_of_methodNamed B.named
  have hlocks := B.notSynchronized
  have hK := hKK.1
  have hin8 : ∀ w ∈ wsX80, w ∈ wsX11_feed := by decide +kernel
  have hin11 : ∀ w ∈ wsX110, w ∈ wsX11_feed := by decide +kernel
  subst hsz
  have hD := hD0.self (sz := s.heap.size)
  obtain ⟨A, hAe⟩ : ∃ A, A = va_A (wX cI cS a na nc N (mkL l_s l_t l_i l_kp l_iz l_z l_tp l_o0 l_o1 l_o2 l_o3 l_n0 l_n1 l_n2 l_n3) u0) s.heap.size := ⟨_, rfl⟩
  rw [← hAe] at hD
  have hA : ∀ q : Nat, s.heap.size ≤ q → A q := fun q h => by rw [hAe]; exact Or.inr h
  have hS : va_S A s.heap s.heap [] := va_S.rf
  have hl := lv_entry ([.ref (a 0), .int x0, .int x1]) (n := 4) (Nat.le_of_ble_eq_true rfl)
  rw [lg_entry_eq]
  generalize (lg_sl ([.ref (a 0), .int x0, .int x1]) ++ List.replicate (4 - (lg_sl ([.ref (a 0), .int x0, .int x1])).length) Slot.unset).toArray = ls at hl ⊢
  have hl : lv_has ls 4 [(0, .ref (a 0)), (1, .int x0), (2, .int x1)] := hl
  obtain ⟨u, hu9⟩ : ∃ u : SU, u = u0 := ⟨_, rfl⟩
  rw [← hu9] at hP hD
  have p_s : Rg 0 12 l_s := hL.1
  have p_t : Rg 0 12 l_t := hL.2.1
  have p_i : Rg 0 12 l_i := hL.2.2.1
  have p_tp : Rg 0 120 l_tp := hL.2.2.2.1
  have p_n0 : Rg 0 40 l_n0 := hL.2.2.2.2.1
  have p_n1 : Rg 0 40 l_n1 := hL.2.2.2.2.2.1
  have p_n2 : Rg 0 40 l_n2 := hL.2.2.2.2.2.2.1
  have p_n3 : Rg 0 40 l_n3 := hL.2.2.2.2.2.2.2
  have lp34 : ∀ (n34 : Nat) (y34_l3 : Int32) (y34_ktp : Int32) (u : SU) (H : Heap) (locs : List Loc) (ls : Array Slot), Rg (-1) 3 y34_l3 → Rg 0 120 y34_ktp → (y34_ktp.toInt + y34_l3.toInt + 1 = l_tp.toInt + x1.toInt ∧ l_tp.toInt + x1.toInt ≤ 120 ∧ 1 ≤ x1.toInt ∧ x1.toInt ≤ 4) → va_P D cls (wX cI cS a na nc N (mkL l_s l_t l_i l_kp l_iz l_z y34_ktp l_o0 l_o1 l_o2 l_o3 l_n0 l_n1 l_n2 l_n3) u) H → va_D A (wX cI cS a na nc N (mkL l_s l_t l_i l_kp l_iz l_z y34_ktp l_o0 l_o1 l_o2 l_o3 l_n0 l_n1 l_n2 l_n3) u) → va_S A s.heap H locs → lv_has ls 4 [(0, .ref (a 0)), (1, .int x0), (3, .int y34_l3)] → y34_l3.toInt - (-1) < (n34 : Int) → W p l e (headSpec wsX11_feed ({ frames := 1, cells := 0, slots := 0, locals := 40 })).room s m ([.ref (a 0), .int x0, .int x1]).toArray below meth c H locs 0 0 (MQ below (QF (S := Int32 × SU) D (wX cI cS a na nc N (mkL l_s l_t l_i l_kp l_iz l_z l_tp l_o0 l_o1 l_o2 l_o3 l_n0 l_n1 l_n2 l_n3) u0) (fun q => wX cI cS a na nc N (mkL l_s l_t l_i l_kp l_iz l_z q.1 l_o0 l_o1 l_o2 l_o3 l_n0 l_n1 l_n2 l_n3) q.2) s.heap.size (fun r q => Rg (-4) 120 r ∧ Rg 0 120 q.1 ∧ ((x1.toInt < 1 ∨ 4 < x1.toInt → r.toInt = -2 ∧ q.1.toInt = l_tp.toInt) ∧ (1 ≤ x1.toInt → x1.toInt ≤ 4 → 120 < l_tp.toInt + x1.toInt → r.toInt = -4 ∧ q.1.toInt = l_tp.toInt) ∧ (1 ≤ x1.toInt → x1.toInt ≤ 4 → l_tp.toInt + x1.toInt ≤ 120 → r.toInt = l_tp.toInt + x1.toInt ∧ q.1.toInt = l_tp.toInt + x1.toInt)))) ([.ref (a 0), .int x0, .int x1]).toArray s 0 0 (va_A (wX cI cS a na nc N (mkL l_s l_t l_i l_kp l_iz l_z l_tp l_o0 l_o1 l_o2 l_o3 l_n0 l_n1 l_n2 l_n3) u0) s.heap.size)) (F0 m 34 ls []) := by
    intro n34
    induction n34 with
    | zero =>
      intro y34_l3 y34_ktp u H locs ls g34_l3 g34_ktp x34_0 hP hD hS hl hm34
      exact absurd rfl (me_y g34_l3 hm34)
    | succ n34 ih34 =>
      intro y34_l3 y34_ktp u H locs ls g34_l3 g34_ktp x34_0 hP hD hS hl hm34
      refine lv_iload_n hx hb dX11_feed_34 rfl (lv_at hl 2 rfl) ?_
      refine lv_if_lt (tgt := 61) hx hb dX11_feed_35 (by decide) (fun c50082 => ?_) (fun c50082 => ?_)
      · have g50083 : Rg (-1) (-1) y34_l3 := rg_ltl g34_l3 (by decide : Rg 0 0 (0 : Int32)) c50082 (by decide)
        refine lv_aload_n hx hb dX11_feed_61 rfl (lv_at hl 0 rfl) ?_
        refine va_get (D := D) (ci := 11) (v := .ref (a 21)) (C := RX11) (T := TX11) (N := 16) hx hb hts hin11 hown hK hP 0 rfl rfl 10 (by decide) (hts (.fieldLink RX11 60 "MissedPoints" "tape" "LMissedPoints$Tape;") (by decide +kernel)) (fun _ h9 => h9) rfl dX11_feed_62 ?_
        refine va_getN (D := D) (ci := 8) (v := .int y34_ktp) (C := RX8) (T := TX8) (N := 2) hx hb hts hin8 hown hK hP 21 rfl rfl 1 (by decide) (va_Nw.use rfl hKK.2.1) (fun _ h9 => h9) rfl dX11_feed_65 ?_
        subst hAe
        exact W.iret (v := y34_ktp) hx hb hr (fun t ht hW => ⟨⟨_, (y34_ktp, u), rfl, ⟨(show Rg (-4) 120 y34_ktp from rg_w g34_ktp (by decide) (by decide)), g34_ktp, (show (x1.toInt < 1 ∨ 4 < x1.toInt → y34_ktp.toInt = -2 ∧ y34_ktp.toInt = l_tp.toInt) ∧ (1 ≤ x1.toInt → x1.toInt ≤ 4 → 120 < l_tp.toInt + x1.toInt → y34_ktp.toInt = -4 ∧ y34_ktp.toInt = l_tp.toInt) ∧ (1 ≤ x1.toInt → x1.toInt ≤ 4 → l_tp.toInt + x1.toInt ≤ 120 → y34_ktp.toInt = l_tp.toInt + x1.toInt ∧ y34_ktp.toInt = l_tp.toInt + x1.toInt) from by have y90 : y34_l3.toInt < (0 : Int32).toInt := (lz_lt _ _).mp c50082; have y91 : Rg (-1) (-1) y34_l3 := g50083; have y92 : Rg (-1) (-1) y34_l3 := g50083; have y93 : Rg 0 120 y34_ktp := g34_ktp; have y94 : Rg 0 12 l_s := p_s; have y95 : Rg 0 12 l_t := p_t; have y96 : Rg 0 12 l_i := p_i; have y97 : Rg 0 120 y34_ktp := g34_ktp; have y98 : Rg 0 40 l_n0 := p_n0; have y99 : Rg 0 40 l_n1 := p_n1; have y910 : Rg 0 40 l_n2 := p_n2; have y911 : Rg 0 40 l_n3 := p_n3; have y912 : Rg 0 120 y34_ktp := g34_ktp; have y9c13 : (0 : Int32).toInt = 0 := (by decide); have y9c14 : (1 : Int32).toInt = 1 := (by decide); omega)⟩, by rw [ht]; exact hP, hD⟩, hS.F ht⟩) hS.2.2 dX11_feed_68
      · have g50084 : Rg 0 3 y34_l3 := rg_ler (by decide : Rg 0 0 (0 : Int32)) g34_l3 (rg_nlt c50082) (by decide)
        refine lv_aload_n hx hb dX11_feed_38 rfl (lv_at hl 0 rfl) ?_
        refine va_get (D := D) (ci := 11) (v := .ref (a 21)) (C := RX11) (T := TX11) (N := 16) hx hb hts hin11 hown hK hP 0 rfl rfl 10 (by decide) (hts (.fieldLink RX11 60 "MissedPoints" "tape" "LMissedPoints$Tape;") (by decide +kernel)) (fun _ h9 => h9) rfl dX11_feed_39 ?_
        refine lv_iload_n hx hb dX11_feed_42 rfl (lv_at hl 1 rfl) ?_
        refine lv_bipush (v := 8) hx hb dX11_feed_43 (by decide) ?_
        refine lv_iload_n hx hb dX11_feed_45 rfl (lv_at hl 2 rfl) ?_
        refine wk_imul (f := 24) hx hb dX11_feed_46 (by decide : Rg 0 8 (8 : Int32)) g50084 (by decide) (fun r50085 hr50085 er50085 qr50085 => ?_)
        refine lv_iushr hx hb dX11_feed_47 rfl ?_
        refine wk_any (fun r50086 => ?_)
        refine lv_sipush (v := 255) hx hb dX11_feed_48 (by decide) ?_
        refine wk_iandr hx hb dX11_feed_51 (by decide : Rg 255 255 (255 : Int32)) (by decide) (fun r50087 hr50087 qr50087 => ?_)
        refine wk_qv (S := Int32 × SU) (fun q => wX cI cS a na nc N (mkL l_s l_t l_i l_kp l_iz l_z q.1 l_o0 l_o1 l_o2 l_o3 l_n0 l_n1 l_n2 l_n3) q.2) (y34_ktp, u) (As := [.int r50087]) (rest := []) ⟨hx, hb, hml, hown, hts⟩ (k_X8_append l D cI cS _ a na nc N l_s l_t l_i l_kp l_iz l_z y34_ktp l_o0 l_o1 l_o2 l_o3 l_n0 l_n1 l_n2 l_n3 u (show TyX (mkL l_s l_t l_i l_kp l_iz l_z y34_ktp l_o0 l_o1 l_o2 l_o3 l_n0 l_n1 l_n2 l_n3) from ⟨p_s, p_t, p_i, g34_ktp, p_n0, p_n1, p_n2, p_n3⟩) hN r50087) hKK hP hD hS hA 21 (ci := 8) rfl rfl (cwV 1 hts gX11_feed_X8_append rfl rfl rfl (by decide +kernel) ⟨Nat.le_of_ble_eq_true rfl, Nat.le_of_ble_eq_true rfl⟩) rfl hl.1 rfl (Nat.le_of_ble_eq_true rfl) dX11_feed_52 ⟨Nat.le_of_ble_eq_true rfl, Nat.le_of_ble_eq_true rfl⟩ (fun q9 H locs hr50088 hP hD hS => ?_)
        obtain ⟨r50089, u⟩ := q9
        have hr50088 : Rg 1 120 r50089 ∧ ((y34_ktp.toInt < 120 → r50089.toInt = y34_ktp.toInt + 1)) := hr50088
        have hP : va_P D cls (wX cI cS a na nc N (mkL l_s l_t l_i l_kp l_iz l_z r50089 l_o0 l_o1 l_o2 l_o3 l_n0 l_n1 l_n2 l_n3) u) H := hP
        have hD : va_D A (wX cI cS a na nc N (mkL l_s l_t l_i l_kp l_iz l_z r50089 l_o0 l_o1 l_o2 l_o3 l_n0 l_n1 l_n2 l_n3) u) := hD
        have kr50088_0 := hr50088.2
        refine wk_iinc (lv' := fun r => [(3, .int r), (0, .ref (a 0)), (1, .int x0)]) (e1 := (-1)) (f := 2) hx hb dX11_feed_55 hl (k := 2) rfl (by decide) g50084 (by decide) (fun _ => rfl) (fun r50090 ls hr50090 er50090 hl => ?_)
        refine lv_goto (tgt := 34) hx hb dX11_feed_58 (by decide) ?_
        exact ih34 r50090 r50089 u _ _ ls (show Rg (-1) 3 r50090 from rg_w hr50090 (by decide) (by decide)) (show Rg 0 120 r50089 from rg_w hr50088.1 (by decide) (by decide)) (show (r50089.toInt + r50090.toInt + 1 = l_tp.toInt + x1.toInt ∧ l_tp.toInt + x1.toInt ≤ 120 ∧ 1 ≤ x1.toInt ∧ x1.toInt ≤ 4) from by have y90 : (0 : Int32).toInt ≤ y34_l3.toInt := (lz_le _ _).mp (rg_nlt c50082); have y91 : Rg 0 3 y34_l3 := g50084; have y92 : Rg (-1) 2 r50090 := hr50090; have y93 : Rg 0 12 l_s := p_s; have y94 : Rg 0 12 l_t := p_t; have y95 : Rg 0 12 l_i := p_i; have y96 : Rg 1 120 r50089 := hr50088.1; have y97 : Rg 0 40 l_n0 := p_n0; have y98 : Rg 0 40 l_n1 := p_n1; have y99 : Rg 0 40 l_n2 := p_n2; have y910 : Rg 0 40 l_n3 := p_n3; have y9c11 : (0 : Int32).toInt = 0 := (by decide); have y9c12 : (1 : Int32).toInt = 1 := (by decide); omega) hP hD hS (lv_sub (l' := [(0, .ref (a 0)), (1, .int x0), (3, .int r50090)]) hl [1, 2, 0] rfl) (me_dn hm34 er50090 (by decide))
  refine lv_iload_n hx hb dX11_feed_0 rfl (lv_at hl 2 rfl) ?_
  refine lv_iconst (v := 1) hx hb dX11_feed_1 (by decide) ?_
  refine lv_icmp_lt (tgt := 10) hx hb dX11_feed_2 (by decide) (fun c50091 => ?_) (fun c50091 => ?_)
  · have g50092 : Rg (-2147483648) 0 x1 := rg_ltl (rg_any x1) (by decide : Rg 1 1 (1 : Int32)) c50091 (by decide)
    refine lv_bipush (v := (-2)) hx hb dX11_feed_10 (by decide) ?_
    subst hAe
    exact W.iret (v := (-2)) hx hb hr (fun t ht hW => ⟨⟨_, (l_tp, u), rfl, ⟨(by decide : Rg (-4) 120 ((-2) : Int32)), p_tp, (show (x1.toInt < 1 ∨ 4 < x1.toInt → ((-2) : Int32).toInt = -2 ∧ l_tp.toInt = l_tp.toInt) ∧ (1 ≤ x1.toInt → x1.toInt ≤ 4 → 120 < l_tp.toInt + x1.toInt → ((-2) : Int32).toInt = -4 ∧ l_tp.toInt = l_tp.toInt) ∧ (1 ≤ x1.toInt → x1.toInt ≤ 4 → l_tp.toInt + x1.toInt ≤ 120 → ((-2) : Int32).toInt = l_tp.toInt + x1.toInt ∧ l_tp.toInt = l_tp.toInt + x1.toInt) from by have y90 : x1.toInt < (1 : Int32).toInt := (lz_lt _ _).mp c50091; have y91 : Rg (-2147483648) 0 x1 := g50092; have y92 : Rg (-2147483648) 0 x1 := g50092; have y93 : Rg 0 12 l_s := p_s; have y94 : Rg 0 12 l_t := p_t; have y95 : Rg 0 12 l_i := p_i; have y96 : Rg 0 120 l_tp := p_tp; have y97 : Rg 0 40 l_n0 := p_n0; have y98 : Rg 0 40 l_n1 := p_n1; have y99 : Rg 0 40 l_n2 := p_n2; have y910 : Rg 0 40 l_n3 := p_n3; have y9c11 : ((-2) : Int32).toInt = -2 := (by decide); have y9c12 : (0 : Int32).toInt = 0 := (by decide); have y9c13 : (1 : Int32).toInt = 1 := (by decide); omega)⟩, by rw [ht]; exact hP, hD⟩, hS.F ht⟩) hS.2.2 dX11_feed_12
  · have g50093 : Rg 1 2147483647 x1 := rg_ler (by decide : Rg 1 1 (1 : Int32)) (rg_any x1) (rg_nlt c50091) (by decide)
    refine lv_iload_n hx hb dX11_feed_5 rfl (lv_at hl 2 rfl) ?_
    refine lv_iconst (v := 4) hx hb dX11_feed_6 (by decide) ?_
    refine lv_icmp_le (tgt := 13) hx hb dX11_feed_7 (by decide) (fun c50094 => ?_) (fun c50094 => ?_)
    · have g50095 : Rg 1 4 x1 := rg_lel g50093 (by decide : Rg 4 4 (4 : Int32)) c50094 (by decide)
      refine lv_iload_n hx hb dX11_feed_13 rfl (lv_at hl 2 rfl) ?_
      refine lv_bipush (v := 120) hx hb dX11_feed_14 (by decide) ?_
      refine lv_aload_n hx hb dX11_feed_16 rfl (lv_at hl 0 rfl) ?_
      refine va_get (D := D) (ci := 11) (v := .ref (a 21)) (C := RX11) (T := TX11) (N := 16) hx hb hts hin11 hown hK hP 0 rfl rfl 10 (by decide) (hts (.fieldLink RX11 60 "MissedPoints" "tape" "LMissedPoints$Tape;") (by decide +kernel)) (fun _ h9 => h9) rfl dX11_feed_17 ?_
      refine va_getN (D := D) (ci := 8) (v := .int l_tp) (C := RX8) (T := TX8) (N := 2) hx hb hts hin8 hown hK hP 21 rfl rfl 1 (by decide) (va_Nw.use rfl hKK.2.1) (fun _ h9 => h9) rfl dX11_feed_20 ?_
      refine wk_isub (e1 := 0) (f := 120) hx hb dX11_feed_23 (by decide : Rg 120 120 (120 : Int32)) p_tp (by decide) (fun r50096 hr50096 er50096 qr50096 => ?_)
      refine lv_icmp_le (tgt := 30) hx hb dX11_feed_24 (by decide) (fun c50097 => ?_) (fun c50097 => ?_)
      · have g50098 : Rg 1 120 r50096 := rg_ler g50095 hr50096 c50097 (by decide)
        refine lv_iload_n hx hb dX11_feed_30 rfl (lv_at hl 2 rfl) ?_
        refine lv_iconst (v := 1) hx hb dX11_feed_31 (by decide) ?_
        refine wk_isub (e1 := 0) (f := 3) hx hb dX11_feed_32 g50095 (by decide : Rg 1 1 (1 : Int32)) (by decide) (fun r50099 hr50099 er50099 qr50099 => ?_)
        refine lv_istore_n (lv' := [(3, .int r50099), (0, .ref (a 0)), (1, .int x0), (2, .int x1)]) hx hb dX11_feed_33 rfl hl (by decide) rfl (fun ls hl => ?_)
        exact lp34 5 r50099 l_tp u _ _ ls (show Rg (-1) 3 r50099 from rg_w hr50099 (by decide) (by decide)) p_tp (show (l_tp.toInt + r50099.toInt + 1 = l_tp.toInt + x1.toInt ∧ l_tp.toInt + x1.toInt ≤ 120 ∧ 1 ≤ x1.toInt ∧ x1.toInt ≤ 4) from by have y90 : (1 : Int32).toInt ≤ x1.toInt := (lz_le _ _).mp (rg_nlt c50091); have y91 : x1.toInt ≤ (4 : Int32).toInt := (lz_le _ _).mp c50094; have y92 : x1.toInt ≤ r50096.toInt := (lz_le _ _).mp c50097; have y93 : Rg 1 4 x1 := g50095; have y94 : Rg 1 120 r50096 := g50098; have y95 : Rg 1 4 x1 := g50095; have y96 : Rg 0 3 r50099 := hr50099; have y97 : Rg 0 12 l_s := p_s; have y98 : Rg 0 12 l_t := p_t; have y99 : Rg 0 12 l_i := p_i; have y910 : Rg 0 120 l_tp := p_tp; have y911 : Rg 0 40 l_n0 := p_n0; have y912 : Rg 0 40 l_n1 := p_n1; have y913 : Rg 0 40 l_n2 := p_n2; have y914 : Rg 0 40 l_n3 := p_n3; have y9c15 : (0 : Int32).toInt = 0 := (by decide); have y9c16 : (1 : Int32).toInt = 1 := (by decide); have y9c17 : (4 : Int32).toInt = 4 := (by decide); have y9c18 : (120 : Int32).toInt = 120 := (by decide); omega) hP hD hS (lv_sub (l' := [(0, .ref (a 0)), (1, .int x0), (3, .int r50099)]) hl [1, 2, 0] rfl) (me_j (show Rg (-1) 3 r50099 from rg_w hr50099 (by decide) (by decide)) (by decide))
      · have g50100 : Rg 0 3 r50096 := rg_ltl hr50096 g50095 (rg_nle c50097) (by decide)
        refine lv_bipush (v := (-4)) hx hb dX11_feed_27 (by decide) ?_
        subst hAe
        exact W.iret (v := (-4)) hx hb hr (fun t ht hW => ⟨⟨_, (l_tp, u), rfl, ⟨(by decide : Rg (-4) 120 ((-4) : Int32)), p_tp, (show (x1.toInt < 1 ∨ 4 < x1.toInt → ((-4) : Int32).toInt = -2 ∧ l_tp.toInt = l_tp.toInt) ∧ (1 ≤ x1.toInt → x1.toInt ≤ 4 → 120 < l_tp.toInt + x1.toInt → ((-4) : Int32).toInt = -4 ∧ l_tp.toInt = l_tp.toInt) ∧ (1 ≤ x1.toInt → x1.toInt ≤ 4 → l_tp.toInt + x1.toInt ≤ 120 → ((-4) : Int32).toInt = l_tp.toInt + x1.toInt ∧ l_tp.toInt = l_tp.toInt + x1.toInt) from by have y90 : (1 : Int32).toInt ≤ x1.toInt := (lz_le _ _).mp (rg_nlt c50091); have y91 : x1.toInt ≤ (4 : Int32).toInt := (lz_le _ _).mp c50094; have y92 : r50096.toInt < x1.toInt := (lz_lt _ _).mp (rg_nle c50097); have y93 : Rg 1 4 x1 := g50095; have y94 : Rg 0 3 r50096 := g50100; have y95 : Rg 1 4 x1 := g50095; have y96 : Rg 0 12 l_s := p_s; have y97 : Rg 0 12 l_t := p_t; have y98 : Rg 0 12 l_i := p_i; have y99 : Rg 0 120 l_tp := p_tp; have y910 : Rg 0 40 l_n0 := p_n0; have y911 : Rg 0 40 l_n1 := p_n1; have y912 : Rg 0 40 l_n2 := p_n2; have y913 : Rg 0 40 l_n3 := p_n3; have y9c14 : ((-4) : Int32).toInt = -4 := (by decide); have y9c15 : (0 : Int32).toInt = 0 := (by decide); have y9c16 : (1 : Int32).toInt = 1 := (by decide); have y9c17 : (4 : Int32).toInt = 4 := (by decide); have y9c18 : (120 : Int32).toInt = 120 := (by decide); omega)⟩, by rw [ht]; exact hP, hD⟩, hS.F ht⟩) hS.2.2 dX11_feed_29
    · have g50101 : Rg 5 2147483647 x1 := rg_ltr (by decide : Rg 4 4 (4 : Int32)) g50093 (rg_nle c50094) (by decide)
      refine lv_bipush (v := (-2)) hx hb dX11_feed_10 (by decide) ?_
      subst hAe
      exact W.iret (v := (-2)) hx hb hr (fun t ht hW => ⟨⟨_, (l_tp, u), rfl, ⟨(by decide : Rg (-4) 120 ((-2) : Int32)), p_tp, (show (x1.toInt < 1 ∨ 4 < x1.toInt → ((-2) : Int32).toInt = -2 ∧ l_tp.toInt = l_tp.toInt) ∧ (1 ≤ x1.toInt → x1.toInt ≤ 4 → 120 < l_tp.toInt + x1.toInt → ((-2) : Int32).toInt = -4 ∧ l_tp.toInt = l_tp.toInt) ∧ (1 ≤ x1.toInt → x1.toInt ≤ 4 → l_tp.toInt + x1.toInt ≤ 120 → ((-2) : Int32).toInt = l_tp.toInt + x1.toInt ∧ l_tp.toInt = l_tp.toInt + x1.toInt) from by have y90 : (1 : Int32).toInt ≤ x1.toInt := (lz_le _ _).mp (rg_nlt c50091); have y91 : (4 : Int32).toInt < x1.toInt := (lz_lt _ _).mp (rg_nle c50094); have y92 : Rg 5 2147483647 x1 := g50101; have y93 : Rg 5 2147483647 x1 := g50101; have y94 : Rg 0 12 l_s := p_s; have y95 : Rg 0 12 l_t := p_t; have y96 : Rg 0 12 l_i := p_i; have y97 : Rg 0 120 l_tp := p_tp; have y98 : Rg 0 40 l_n0 := p_n0; have y99 : Rg 0 40 l_n1 := p_n1; have y910 : Rg 0 40 l_n2 := p_n2; have y911 : Rg 0 40 l_n3 := p_n3; have y9c12 : ((-2) : Int32).toInt = -2 := (by decide); have y9c13 : (0 : Int32).toInt = 0 := (by decide); have y9c14 : (1 : Int32).toInt = 1 := (by decide); have y9c15 : (4 : Int32).toInt = 4 := (by decide); omega)⟩, by rw [ht]; exact hP, hD⟩, hS.F ht⟩) hS.2.2 dX11_feed_12
set_option maxRecDepth 20000 in
theorem ggX11_text_X2_joinAll : GoodIn wsX11_text wsX2_joinAll := goodIn_r _ [75, 48, 76, 77, 78, 46, 79, 80, 81, 82, 83, 84, 85, 44, 45, 47, 86, 87, 88, 89, 90, 117, 118, 119] rfl (by decide +kernel)
set_option maxRecDepth 20000 in
theorem gX11_text_X2_joinAll : GoodIn wsX11_text (wsV RX11 275 RX2 yX2_joinAll wsX2_joinAll) := goodIn_app (goodIn_of _ (by decide +kernel)) ggX11_text_X2_joinAll
set_option maxRecDepth 20000 in
theorem ggX11_text_X5_readAll : GoodIn wsX11_text wsX5_readAll := goodIn_r _ [8, 9, 10, 11, 12, 13, 14, 15, 7, 16, 17, 18, 19, 20, 21, 22, 23, 24, 25, 26, 27, 28, 29, 30, 31, 32, 33, 34, 35, 36, 37, 38, 39, 40, 41, 42, 43, 44, 45, 46, 47, 48, 49, 50, 51, 52, 53, 54, 55, 56, 57, 58, 59, 60, 61, 62, 63, 64, 65, 66, 67, 107, 108, 109, 110, 111, 112, 113, 114, 115, 116, 117, 118, 119] rfl (by decide +kernel)
set_option maxRecDepth 20000 in
theorem gX11_text_X5_readAll : GoodIn wsX11_text (wsV RX11 268 RX5 yX5_readAll wsX5_readAll) := goodIn_app (goodIn_of _ (by decide +kernel)) ggX11_text_X5_readAll
set_option maxRecDepth 20000 in
theorem ggX11_text_X8_clear : GoodIn wsX11_text wsX8_clear := goodIn_r _ [71, 25, 115, 116] rfl (by decide +kernel)
set_option maxRecDepth 20000 in
theorem gX11_text_X8_clear : GoodIn wsX11_text (wsV RX11 265 RX8 yX8_clear wsX8_clear) := goodIn_app (goodIn_of _ (by decide +kernel)) ggX11_text_X8_clear
theorem dX11_text_0 : decode cX11_text 0 = .ok (.aload_n 0, 1) := by decide +kernel
theorem dX11_text_1 : decode cX11_text 1 = .ok (.getfield 69, 3) := by decide +kernel
theorem dX11_text_12 : decode cX11_text 12 = .ok (.invokevirtual 265, 3) := by decide +kernel
theorem dX11_text_15 : decode cX11_text 15 = .ok (.pop, 1) := by decide +kernel
theorem dX11_text_16 : decode cX11_text 16 = .ok (.iload_n 1, 1) := by decide +kernel
theorem dX11_text_17 : decode cX11_text 17 = .ok (.ifCond .lt 10, 3) := by decide +kernel
theorem dX11_text_20 : decode cX11_text 20 = .ok (.bipush (-100), 2) := by decide +kernel
theorem dX11_text_22 : decode cX11_text 22 = .ok (.iload_n 1, 1) := by decide +kernel
theorem dX11_text_23 : decode cX11_text 23 = .ok (.isub, 1) := by decide +kernel
theorem dX11_text_24 : decode cX11_text 24 = .ok (.goto 17, 3) := by decide +kernel
theorem dX11_text_27 : decode cX11_text 27 = .ok (.aload_n 0, 1) := by decide +kernel
theorem dX11_text_28 : decode cX11_text 28 = .ok (.getfield 12, 3) := by decide +kernel
theorem dX11_text_31 : decode cX11_text 31 = .ok (.aload_n 0, 1) := by decide +kernel
theorem dX11_text_32 : decode cX11_text 32 = .ok (.getfield 69, 3) := by decide +kernel
theorem dX11_text_35 : decode cX11_text 35 = .ok (.getfield 271, 3) := by decide +kernel
theorem dX11_text_38 : decode cX11_text 38 = .ok (.invokevirtual 275, 3) := by decide +kernel
theorem dX11_text_4 : decode cX11_text 4 = .ok (.invokevirtual 268, 3) := by decide +kernel
theorem dX11_text_41 : decode cX11_text 41 = .ok (.ireturn, 1) := by decide +kernel
theorem dX11_text_7 : decode cX11_text 7 = .ok (.istore_n 1, 1) := by decide +kernel
theorem dX11_text_8 : decode cX11_text 8 = .ok (.aload_n 0, 1) := by decide +kernel
theorem dX11_text_9 : decode cX11_text 9 = .ok (.getfield 60, 3) := by decide +kernel
set_option maxHeartbeats 4000000 in
set_option maxRecDepth 100000 in
theorem k_X11_text (l : Launch) (D : va_G) (cI cS : ClassId) (sz : Nat) (a : Nat → Nat) (na nc N : Nat) (l_s l_t l_i l_kp l_iz l_z l_tp l_o0 l_o1 l_o2 l_o3 l_n0 l_n1 l_n2 l_n3 : Int32) (u0 : SU) (hL : TyX (mkL l_s l_t l_i l_kp l_iz l_z l_tp l_o0 l_o1 l_o2 l_o3 l_n0 l_n1 l_n2 l_n3)) (hN : N = 0 ∨ N = 24576) : Met l yX11_text wsX11_text ({ frames := 6, cells := 0, slots := 0, locals := 240 }) (PQ D cI cS (wX cI cS a na nc N (mkL l_s l_t l_i l_kp l_iz l_z l_tp l_o0 l_o1 l_o2 l_o3 l_n0 l_n1 l_n2 l_n3) u0) sz [.ref (a 0)]) (QF (S := Int32 × SU) D (wX cI cS a na nc N (mkL l_s l_t l_i l_kp l_iz l_z l_tp l_o0 l_o1 l_o2 l_o3 l_n0 l_n1 l_n2 l_n3) u0) (fun q => wX cI cS a na nc N (mkL l_s l_t l_i l_kp l_iz l_z q.1 l_o0 l_o1 l_o2 l_o3 l_n0 l_n1 l_n2 l_n3) q.2) sz (fun r q => Rg (-2147483648) 2147483647 r ∧ Rg 0 0 q.1 ∧ (q.1.toInt = 0))) 0 0 (va_A (wX cI cS a na nc N (mkL l_s l_t l_i l_kp l_iz l_z l_tp l_o0 l_o1 l_o2 l_o3 l_n0 l_n1 l_n2 l_n3) u0) sz) := by
  refine Met.ofW (cc := cX11_text) (maxL := 2) (ret := (some .int)) (by decide) rfl ?_
  intro p e s m args below meth c s₁ B hml hv
  obtain ⟨rfl, hsz, hP, hKK, hD0⟩ := hv
  have hx := B.exec
  have hb := B.bytes
  have hr := B.returns
  have hts := atoms_spec (ws := wsX11_text) B.pre
  have hown : s.vm.findClass RX11 = some m.cls := findClass_of_methodNamed B.named
  have hlocks := B.notSynchronized
  have hK := hKK.1
  have hin5 : ∀ w ∈ wsX50, w ∈ wsX11_text := by decide +kernel
  have hin11 : ∀ w ∈ wsX110, w ∈ wsX11_text := by decide +kernel
  subst hsz
  have hD := hD0.self (sz := s.heap.size)
  obtain ⟨A, hAe⟩ : ∃ A, A = va_A (wX cI cS a na nc N (mkL l_s l_t l_i l_kp l_iz l_z l_tp l_o0 l_o1 l_o2 l_o3 l_n0 l_n1 l_n2 l_n3) u0) s.heap.size := ⟨_, rfl⟩
  rw [← hAe] at hD
  have hA : ∀ q : Nat, s.heap.size ≤ q → A q := fun q h => by rw [hAe]; exact Or.inr h
  have hS : va_S A s.heap s.heap [] := va_S.rf
  have hl := lv_entry ([.ref (a 0)]) (n := 2) (Nat.le_of_ble_eq_true rfl)
  rw [lg_entry_eq]
  generalize (lg_sl ([.ref (a 0)]) ++ List.replicate (2 - (lg_sl ([.ref (a 0)])).length) Slot.unset).toArray = ls at hl ⊢
  have hl : lv_has ls 2 [(0, .ref (a 0))] := hl
  obtain ⟨u, hu9⟩ : ∃ u : SU, u = u0 := ⟨_, rfl⟩
  rw [← hu9] at hP hD
  have p_s : Rg 0 12 l_s := hL.1
  have p_t : Rg 0 12 l_t := hL.2.1
  have p_i : Rg 0 12 l_i := hL.2.2.1
  have p_tp : Rg 0 120 l_tp := hL.2.2.2.1
  have p_n0 : Rg 0 40 l_n0 := hL.2.2.2.2.1
  have p_n1 : Rg 0 40 l_n1 := hL.2.2.2.2.2.1
  have p_n2 : Rg 0 40 l_n2 := hL.2.2.2.2.2.2.1
  have p_n3 : Rg 0 40 l_n3 := hL.2.2.2.2.2.2.2
  refine lv_aload_n hx hb dX11_text_0 rfl (lv_at hl 0 rfl) ?_
  refine va_get (D := D) (ci := 11) (v := .ref (a 23)) (C := RX11) (T := TX11) (N := 16) hx hb hts hin11 hown hK hP 0 rfl rfl 11 (by decide) (hts (.fieldLink RX11 69 "MissedPoints" "reader" "LMissedPoints$Reader;") (by decide +kernel)) (fun _ h9 => h9) rfl dX11_text_1 ?_
  refine wk_qi (wX cI cS a na nc N (mkL l_s l_t l_i l_kp l_iz l_z l_tp l_o0 l_o1 l_o2 l_o3 l_n0 l_n1 l_n2 l_n3)) u (As := []) (rest := []) ⟨hx, hb, hml, hown, hts⟩ (k_X5_readAll l D cI cS _ a na nc N (mkL l_s l_t l_i l_kp l_iz l_z l_tp l_o0 l_o1 l_o2 l_o3 l_n0 l_n1 l_n2 l_n3) u (show TyX (mkL l_s l_t l_i l_kp l_iz l_z l_tp l_o0 l_o1 l_o2 l_o3 l_n0 l_n1 l_n2 l_n3) from ⟨p_s, p_t, p_i, p_tp, p_n0, p_n1, p_n2, p_n3⟩) hN) hKK hP hD hS hA 23 (ci := 5) rfl rfl (cwV 0 hts gX11_text_X5_readAll rfl rfl rfl (by decide +kernel) ⟨Nat.le_of_ble_eq_true rfl, Nat.le_of_ble_eq_true rfl⟩) rfl hl.1 rfl (Nat.le_of_ble_eq_true rfl) dX11_text_4 ⟨Nat.le_of_ble_eq_true rfl, Nat.le_of_ble_eq_true rfl⟩ (fun r50110 u H locs hr50110 hP hD hS => ?_)
  refine lv_istore_n (lv' := [(1, .int r50110), (0, .ref (a 0))]) hx hb dX11_text_7 rfl hl (by decide) rfl (fun ls hl => ?_)
  refine lv_aload_n hx hb dX11_text_8 rfl (lv_at hl 1 rfl) ?_
  refine va_get (D := D) (ci := 11) (v := .ref (a 21)) (C := RX11) (T := TX11) (N := 16) hx hb hts hin11 hown hK hP 0 rfl rfl 10 (by decide) (hts (.fieldLink RX11 60 "MissedPoints" "tape" "LMissedPoints$Tape;") (by decide +kernel)) (fun _ h9 => h9) rfl dX11_text_9 ?_
  refine wk_qi (S := Int32 × SU) (fun q => wX cI cS a na nc N (mkL l_s l_t l_i l_kp l_iz l_z q.1 l_o0 l_o1 l_o2 l_o3 l_n0 l_n1 l_n2 l_n3) q.2) (l_tp, u) (As := []) (rest := []) ⟨hx, hb, hml, hown, hts⟩ (k_X8_clear l D cI cS _ a na nc N l_s l_t l_i l_kp l_iz l_z l_tp l_o0 l_o1 l_o2 l_o3 l_n0 l_n1 l_n2 l_n3 u (show TyX (mkL l_s l_t l_i l_kp l_iz l_z l_tp l_o0 l_o1 l_o2 l_o3 l_n0 l_n1 l_n2 l_n3) from ⟨p_s, p_t, p_i, p_tp, p_n0, p_n1, p_n2, p_n3⟩) hN) hKK hP hD hS hA 21 (ci := 8) rfl rfl (cwV 0 hts gX11_text_X8_clear rfl rfl rfl (by decide +kernel) ⟨Nat.le_of_ble_eq_true rfl, Nat.le_of_ble_eq_true rfl⟩) rfl hl.1 rfl (Nat.le_of_ble_eq_true rfl) dX11_text_12 ⟨Nat.le_of_ble_eq_true rfl, Nat.le_of_ble_eq_true rfl⟩ (fun r50111 q9 H locs hr50111 hP hD hS => ?_)
  obtain ⟨r50112, u⟩ := q9
  have hr50111 : Rg 0 120 r50111 ∧ Rg 0 0 r50112 ∧ (r50111.toInt = l_tp.toInt ∧ r50112.toInt = 0) := hr50111
  have hP : va_P D cls (wX cI cS a na nc N (mkL l_s l_t l_i l_kp l_iz l_z r50112 l_o0 l_o1 l_o2 l_o3 l_n0 l_n1 l_n2 l_n3) u) H := hP
  have hD : va_D A (wX cI cS a na nc N (mkL l_s l_t l_i l_kp l_iz l_z r50112 l_o0 l_o1 l_o2 l_o3 l_n0 l_n1 l_n2 l_n3) u) := hD
  have kr50111_0 := hr50111.2.2
  refine lv_pop hx hb dX11_text_15 rfl ?_
  refine lv_iload_n hx hb dX11_text_16 rfl (lv_at hl 0 rfl) ?_
  refine lv_if_lt (tgt := 27) hx hb dX11_text_17 (by decide) (fun c50113 => ?_) (fun c50113 => ?_)
  · have g50114 : Rg (-2147483648) (-1) r50110 := rg_ltl hr50110.1 (by decide : Rg 0 0 (0 : Int32)) c50113 (by decide)
    refine lv_aload_n hx hb dX11_text_27 rfl (lv_at hl 1 rfl) ?_
    refine va_get (D := D) (ci := 11) (v := .ref (a 1)) (C := RX11) (T := TX11) (N := 16) hx hb hts hin11 hown hK hP 0 rfl rfl 0 (by decide) (hts (.fieldLink RX11 12 "MissedPoints" "net" "LMissedPoints$Net;") (by decide +kernel)) (fun _ h9 => h9) rfl dX11_text_28 ?_
    refine lv_aload_n hx hb dX11_text_31 rfl (lv_at hl 1 rfl) ?_
    refine va_get (D := D) (ci := 11) (v := .ref (a 23)) (C := RX11) (T := TX11) (N := 16) hx hb hts hin11 hown hK hP 0 rfl rfl 11 (by decide) (hts (.fieldLink RX11 69 "MissedPoints" "reader" "LMissedPoints$Reader;") (by decide +kernel)) (fun _ h9 => h9) rfl dX11_text_32 ?_
    refine va_getN (D := D) (ci := 5) (v := .ref (a 24)) (C := RX5) (T := TX5) (N := 8) hx hb hts hin5 hown hK hP 23 rfl rfl 2 (by decide) (va_Nw.use rfl hKK.2.2.2.2.2.2.2.2.1) (fun _ h9 => h9) rfl dX11_text_35 ?_
    refine wk_qi (wX cI cS a na nc N (mkL l_s l_t l_i l_kp l_iz l_z r50112 l_o0 l_o1 l_o2 l_o3 l_n0 l_n1 l_n2 l_n3)) u (As := [.ref (a 24)]) (rest := []) ⟨hx, hb, hml, hown, hts⟩ (k_X2_joinAll l D cI cS _ a na nc N (mkL l_s l_t l_i l_kp l_iz l_z r50112 l_o0 l_o1 l_o2 l_o3 l_n0 l_n1 l_n2 l_n3) u (show TyX (mkL l_s l_t l_i l_kp l_iz l_z r50112 l_o0 l_o1 l_o2 l_o3 l_n0 l_n1 l_n2 l_n3) from ⟨p_s, p_t, p_i, (show Rg 0 120 r50112 from rg_w hr50111.2.1 (by decide) (by decide)), p_n0, p_n1, p_n2, p_n3⟩) hN) hKK hP hD hS hA 1 (ci := 2) rfl rfl (cwV 1 hts gX11_text_X2_joinAll rfl rfl rfl (by decide +kernel) ⟨Nat.le_of_ble_eq_true rfl, Nat.le_of_ble_eq_true rfl⟩) rfl hl.1 rfl (Nat.le_of_ble_eq_true rfl) dX11_text_38 ⟨Nat.le_of_ble_eq_true rfl, Nat.le_of_ble_eq_true rfl⟩ (fun r50115 u H locs hr50115 hP hD hS => ?_)
    subst hAe
    exact W.iret (v := r50115) hx hb hr (fun t ht hW => ⟨⟨_, (r50112, u), rfl, ⟨hr50115.1, hr50111.2.1, (show r50112.toInt = 0 from by have y90 : r50110.toInt < (0 : Int32).toInt := (lz_lt _ _).mp c50113; have y91 : Rg (-2147483648) (-1) r50110 := g50114; have y92 : Rg (-2147483648) (-1) r50110 := g50114; have y93 : Rg (-2147483648) 2147483647 r50115 := hr50115.1; have y94 : Rg 0 12 l_s := p_s; have y95 : Rg 0 12 l_t := p_t; have y96 : Rg 0 12 l_i := p_i; have y97 : Rg 0 0 r50112 := hr50111.2.1; have y98 : Rg 0 40 l_n0 := p_n0; have y99 : Rg 0 40 l_n1 := p_n1; have y910 : Rg 0 40 l_n2 := p_n2; have y911 : Rg 0 40 l_n3 := p_n3; have y912 : Rg (-2147483648) 2147483647 r50115 := hr50115.1; have y9c13 : (0 : Int32).toInt = 0 := (by decide); have y9c14 : (1 : Int32).toInt = 1 := (by decide); omega)⟩, by rw [ht]; exact hP, hD⟩, hS.F ht⟩) hS.2.2 dX11_text_41
  · have g50116 : Rg 0 2147483647 r50110 := rg_ler (by decide : Rg 0 0 (0 : Int32)) hr50110.1 (rg_nlt c50113) (by decide)
    refine lv_bipush (v := (-100)) hx hb dX11_text_20 (by decide) ?_
    refine lv_iload_n hx hb dX11_text_22 rfl (lv_at hl 0 rfl) ?_
    refine lv_isub hx hb dX11_text_23 ?_
    refine wk_topP (P := fun r => r = ((-100) : Int32) - r50110) rfl (fun r50117 qr50117 => ?_)
    refine lv_goto (tgt := 41) hx hb dX11_text_24 (by decide) ?_
    subst hAe
    exact W.iret (v := r50117) hx hb hr (fun t ht hW => ⟨⟨_, (r50112, u), rfl, ⟨(rg_any r50117), hr50111.2.1, (show r50112.toInt = 0 from by have y90 : (0 : Int32).toInt ≤ r50110.toInt := (lz_le _ _).mp (rg_nlt c50113); have y91 : Rg 0 2147483647 r50110 := g50116; have y92 : Rg 0 2147483647 r50110 := g50116; have y93 : Rg 0 12 l_s := p_s; have y94 : Rg 0 12 l_t := p_t; have y95 : Rg 0 12 l_i := p_i; have y96 : Rg 0 0 r50112 := hr50111.2.1; have y97 : Rg 0 40 l_n0 := p_n0; have y98 : Rg 0 40 l_n1 := p_n1; have y99 : Rg 0 40 l_n2 := p_n2; have y910 : Rg 0 40 l_n3 := p_n3; have y9c11 : ((-100) : Int32).toInt = -100 := (by decide); have y9c12 : (0 : Int32).toInt = 0 := (by decide); have y9c13 : (1 : Int32).toInt = 1 := (by decide); omega)⟩, by rw [ht]; exact hP, hD⟩, hS.F ht⟩) hS.2.2 dX11_text_41
theorem dX11_seed_0 : decode cX11_seed 0 = .ok (.aload_n 0, 1) := by decide +kernel
theorem dX11_seed_1 : decode cX11_seed 1 = .ok (.getfield 53, 3) := by decide +kernel
theorem dX11_seed_12 : decode cX11_seed 12 = .ok (.iload_n 1, 1) := by decide +kernel
theorem dX11_seed_13 : decode cX11_seed 13 = .ok (.putfield 141, 3) := by decide +kernel
theorem dX11_seed_16 : decode cX11_seed 16 = .ok (.iload_n 2, 1) := by decide +kernel
theorem dX11_seed_17 : decode cX11_seed 17 = .ok (.ireturn, 1) := by decide +kernel
theorem dX11_seed_4 : decode cX11_seed 4 = .ok (.getfield 141, 3) := by decide +kernel
theorem dX11_seed_7 : decode cX11_seed 7 = .ok (.istore_n 2, 1) := by decide +kernel
theorem dX11_seed_8 : decode cX11_seed 8 = .ok (.aload_n 0, 1) := by decide +kernel
theorem dX11_seed_9 : decode cX11_seed 9 = .ok (.getfield 53, 3) := by decide +kernel
set_option maxHeartbeats 4000000 in
set_option maxRecDepth 100000 in
theorem k_X11_seed (l : Launch) (D : va_G) (cI cS : ClassId) (sz : Nat) (a : Nat → Nat) (na nc N : Nat) (l_s l_t l_i l_kp l_iz l_z l_tp l_o0 l_o1 l_o2 l_o3 l_n0 l_n1 l_n2 l_n3 : Int32) (u0 : SU) (hL : TyX (mkL l_s l_t l_i l_kp l_iz l_z l_tp l_o0 l_o1 l_o2 l_o3 l_n0 l_n1 l_n2 l_n3)) (hN : N = 0 ∨ N = 24576) (x0 : Int32) : Met l yX11_seed wsX11_seed ({ frames := 0, cells := 0, slots := 0, locals := 0 }) (PQ D cI cS (wX cI cS a na nc N (mkL l_s l_t l_i l_kp l_iz l_z l_tp l_o0 l_o1 l_o2 l_o3 l_n0 l_n1 l_n2 l_n3) u0) sz [.ref (a 0), .int x0]) (QF (S := Int32 × SU) D (wX cI cS a na nc N (mkL l_s l_t l_i l_kp l_iz l_z l_tp l_o0 l_o1 l_o2 l_o3 l_n0 l_n1 l_n2 l_n3) u0) (fun q => wX cI cS a na nc N (mkL l_s l_t l_i l_kp l_iz q.1 l_tp l_o0 l_o1 l_o2 l_o3 l_n0 l_n1 l_n2 l_n3) q.2) sz (fun r q => Rg (-2147483648) 2147483647 r ∧ (r.toInt = l_z.toInt ∧ q.1.toInt = x0.toInt))) 0 0 (va_A (wX cI cS a na nc N (mkL l_s l_t l_i l_kp l_iz l_z l_tp l_o0 l_o1 l_o2 l_o3 l_n0 l_n1 l_n2 l_n3) u0) sz) := by
  refine Met.ofW (cc := cX11_seed) (maxL := 3) (ret := (some .int)) (by decide) rfl ?_
  intro p e s m args below meth c s₁ B hml hv
  obtain ⟨rfl, hsz, hP, hKK, hD0⟩ := hv
  have hx := B.exec
  have hb := B.bytes
  have hr := B.returns
  have hts := atoms_spec (ws := wsX11_seed) B.pre
  have hown : s.vm.findClass RX11 = some m.cls := findClass_of_methodNamed B.named
  have hlocks := B.notSynchronized
  have hK := hKK.1
  have hin0 : ∀ w ∈ wsX00, w ∈ wsX11_seed := by decide +kernel
  have hin11 : ∀ w ∈ wsX110, w ∈ wsX11_seed := by decide +kernel
  subst hsz
  have hD := hD0.self (sz := s.heap.size)
  obtain ⟨A, hAe⟩ : ∃ A, A = va_A (wX cI cS a na nc N (mkL l_s l_t l_i l_kp l_iz l_z l_tp l_o0 l_o1 l_o2 l_o3 l_n0 l_n1 l_n2 l_n3) u0) s.heap.size := ⟨_, rfl⟩
  rw [← hAe] at hD
  have hA : ∀ q : Nat, s.heap.size ≤ q → A q := fun q h => by rw [hAe]; exact Or.inr h
  have hS : va_S A s.heap s.heap [] := va_S.rf
  have hl := lv_entry ([.ref (a 0), .int x0]) (n := 3) (Nat.le_of_ble_eq_true rfl)
  rw [lg_entry_eq]
  generalize (lg_sl ([.ref (a 0), .int x0]) ++ List.replicate (3 - (lg_sl ([.ref (a 0), .int x0])).length) Slot.unset).toArray = ls at hl ⊢
  have hl : lv_has ls 3 [(0, .ref (a 0)), (1, .int x0)] := hl
  obtain ⟨u, hu9⟩ : ∃ u : SU, u = u0 := ⟨_, rfl⟩
  rw [← hu9] at hP hD
  have p_s : Rg 0 12 l_s := hL.1
  have p_t : Rg 0 12 l_t := hL.2.1
  have p_i : Rg 0 12 l_i := hL.2.2.1
  have p_tp : Rg 0 120 l_tp := hL.2.2.2.1
  have p_n0 : Rg 0 40 l_n0 := hL.2.2.2.2.1
  have p_n1 : Rg 0 40 l_n1 := hL.2.2.2.2.2.1
  have p_n2 : Rg 0 40 l_n2 := hL.2.2.2.2.2.2.1
  have p_n3 : Rg 0 40 l_n3 := hL.2.2.2.2.2.2.2
  refine lv_aload_n hx hb dX11_seed_0 rfl (lv_at hl 0 rfl) ?_
  refine va_get (D := D) (ci := 11) (v := .ref (a 20)) (C := RX11) (T := TX11) (N := 16) hx hb hts hin11 hown hK hP 0 rfl rfl 9 (by decide) (hts (.fieldLink RX11 53 "MissedPoints" "draws" "LMissedPoints$Draws;") (by decide +kernel)) (fun _ h9 => h9) rfl dX11_seed_1 ?_
  refine va_getN (D := D) (ci := 0) (v := .int l_z) (C := RX0) (T := TX0) (N := 1) hx hb hts hin0 hown hK hP 20 rfl rfl 0 (by decide) (va_Nw.use rfl hKK.2.2.1) (fun _ h9 => h9) rfl dX11_seed_4 ?_
  refine lv_istore_n (lv' := [(2, .int l_z), (0, .ref (a 0)), (1, .int x0)]) hx hb dX11_seed_7 rfl hl (by decide) rfl (fun ls hl => ?_)
  refine lv_aload_n hx hb dX11_seed_8 rfl (lv_at hl 1 rfl) ?_
  refine va_get (D := D) (ci := 11) (v := .ref (a 20)) (C := RX11) (T := TX11) (N := 16) hx hb hts hin11 hown hK hP 0 rfl rfl 9 (by decide) (hts (.fieldLink RX11 53 "MissedPoints" "draws" "LMissedPoints$Draws;") (by decide +kernel)) (fun _ h9 => h9) rfl dX11_seed_9 ?_
  refine lv_iload_n hx hb dX11_seed_12 rfl (lv_at hl 2 rfl) ?_
  refine va_putN (D := D) (ci := 0) (v := .int x0) (ty := .int) (C := RX0) (T := TX0) (N := 1) hx hb hts hin0 tyX0 tyX0_ok nmX0 hown hK hP hD hS 20 rfl rfl 0 (by decide) (va_Nw.use rfl hKK.2.2.1) (fun _ h9 => h9) rfl (by decide +kernel) rfl rfl (Nat.le_of_ble_eq_true rfl) dX11_seed_13 (fun H locs hP hD hS => ?_)
  have hP : va_P D cls (wX cI cS a na nc N (mkL l_s l_t l_i l_kp l_iz x0 l_tp l_o0 l_o1 l_o2 l_o3 l_n0 l_n1 l_n2 l_n3) u) H := hP
  have hD : va_D A (wX cI cS a na nc N (mkL l_s l_t l_i l_kp l_iz x0 l_tp l_o0 l_o1 l_o2 l_o3 l_n0 l_n1 l_n2 l_n3) u) := hD
  refine lv_iload_n hx hb dX11_seed_16 rfl (lv_at hl 0 rfl) ?_
  subst hAe
  exact W.iret (v := l_z) hx hb hr (fun t ht hW => ⟨⟨_, (x0, u), rfl, ⟨(rg_any l_z), (show l_z.toInt = l_z.toInt ∧ x0.toInt = x0.toInt from by have y90 : Rg 0 12 l_s := p_s; have y91 : Rg 0 12 l_t := p_t; have y92 : Rg 0 12 l_i := p_i; have y93 : Rg 0 120 l_tp := p_tp; have y94 : Rg 0 40 l_n0 := p_n0; have y95 : Rg 0 40 l_n1 := p_n1; have y96 : Rg 0 40 l_n2 := p_n2; have y97 : Rg 0 40 l_n3 := p_n3; have y9c8 : (0 : Int32).toInt = 0 := (by decide); have y9c9 : (1 : Int32).toInt = 1 := (by decide); omega)⟩, by rw [ht]; exact hP, hD⟩, hS.F ht⟩) hS.2.2 dX11_seed_17
