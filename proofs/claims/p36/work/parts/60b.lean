set_option maxHeartbeats 4000000 in
set_option maxRecDepth 100000 in
theorem k_X6_become_3 (l : Launch) (D : va_G) (cI cS : ClassId) (sz : Nat) (a : Nat → Nat) (na nc N : Nat) (tw : SU) (l_s l_t l_i l_kp l_iz l_z l_tp l_o0 l_o1 l_o2 l_o3 l_n0 l_n1 l_n2 l_n3 : Int32) (u0 : SU) (hL : TyX (mkL tw l_s l_t l_i l_kp l_iz l_z l_tp l_o0 l_o1 l_o2 l_o3 l_n0 l_n1 l_n2 l_n3)) (hN : N = 0 ∨ N = 24576) (x0 x1 : Int32) : Met l yX6_become wsX6_become ({ frames := 1, cells := 0, slots := 0, locals := 40 }) (PQ D cI cS (wX cI cS a na nc N (mkL tw l_s l_t l_i l_kp l_iz l_z l_tp l_o0 l_o1 l_o2 l_o3 l_n0 l_n1 l_n2 l_n3) u0) sz [.ref (a 32), .int x0, .int x1]) (QE (S := Int32 × Int32 × SU) D (wX cI cS a na nc N (mkL tw l_s l_t l_i l_kp l_iz l_z l_tp l_o0 l_o1 l_o2 l_o3 l_n0 l_n1 l_n2 l_n3) u0) (fun q => wX cI cS a na nc N (mkL tw l_s l_t l_i l_kp l_iz l_z l_tp l_o0 l_o1 l_o2 q.1 l_n0 l_n1 l_n2 q.2.1) q.2.2) sz (fun q => Rg 0 40 q.2.1 ∧ (q.1.toInt = x0.toInt ∧ (0 ≤ x1.toInt → x1.toInt ≤ 40 → q.2.1.toInt = x1.toInt)))) 0 0 (va_A (wX cI cS a na nc N (mkL tw l_s l_t l_i l_kp l_iz l_z l_tp l_o0 l_o1 l_o2 l_o3 l_n0 l_n1 l_n2 l_n3) u0) sz) := by
  refine Met.ofW (cc := cX6_become) (maxL := 4) (ret := none) (by decide) rfl ?_
  intro p e s m args below meth c s₁ B hml hv
  obtain ⟨rfl, hsz, hP, hKK, hD0⟩ := hv
  have hx := B.exec
  have hb := B.bytes
  have hr := B.returns
  have hts := atoms_spec (ws := wsX6_become) B.pre
  have hown : s.vm.findClass RX6 = some m.cls := findClass_of_methodNamed B.named
  have hlocks := B.notSynchronized
  have hK := hKK.1
  have hin6 : ∀ w ∈ wsX60, w ∈ wsX6_become := by decide +kernel
  subst hsz
  have hD := hD0.self (sz := s.heap.size)
  obtain ⟨A, hAe⟩ : ∃ A, A = va_A (wX cI cS a na nc N (mkL tw l_s l_t l_i l_kp l_iz l_z l_tp l_o0 l_o1 l_o2 l_o3 l_n0 l_n1 l_n2 l_n3) u0) s.heap.size := ⟨_, rfl⟩
  rw [← hAe] at hD
  have hA : ∀ q : Nat, s.heap.size ≤ q → A q := fun q h => by rw [hAe]; exact Or.inr h
  have hS : va_S A s.heap s.heap [] := va_S.rf
  have hl := lv_entry ([.ref (a 32), .int x0, .int x1]) (n := 4) (Nat.le_of_ble_eq_true rfl)
  rw [lg_entry_eq]
  generalize (lg_sl ([.ref (a 32), .int x0, .int x1]) ++ List.replicate (4 - (lg_sl ([.ref (a 32), .int x0, .int x1])).length) Slot.unset).toArray = ls at hl ⊢
  have hl : lv_has ls 4 [(0, .ref (a 32)), (1, .int x0), (2, .int x1)] := hl
  obtain ⟨u, hu9⟩ : ∃ u : SU, u = u0 := ⟨_, rfl⟩
  rw [← hu9] at hP hD
  have p_s : Rg 0 12 l_s := hL.1
  have p_t : Rg 0 12 l_t := hL.2.1
  have p_i : Rg 0 12 l_i := hL.2.2.1
  have p_tp : Rg 0 120 l_tp := hL.2.2.2.1
  have p_n0 : Rg 0 40 l_n0 := hL.2.2.2.2.1
  have p_n1 : Rg 0 40 l_n1 := hL.2.2.2.2.2.1
  have p_n2 : Rg 0 40 l_n2 := hL.2.2.2.2.2.2.1
  have p_n3 : Rg 0 40 l_n3 := hL.2.2.2.2.2.2.2
  have lp21 : ∀ (n21 : Nat) (y21_l3 : Int32) (y21_kn3 : Int32) (u : SU) (H : Heap) (locs : List Loc) (ls : Array Slot), Rg 0 40 y21_l3 → Rg 0 40 y21_kn3 → (0 ≤ x1.toInt → x1.toInt ≤ 40 → y21_kn3.toInt = x1.toInt) → va_P D cls (wX cI cS a na nc N (mkL tw l_s l_t l_i l_kp l_iz l_z l_tp l_o0 l_o1 l_o2 x0 l_n0 l_n1 l_n2 y21_kn3) u) H → va_D A (wX cI cS a na nc N (mkL tw l_s l_t l_i l_kp l_iz l_z l_tp l_o0 l_o1 l_o2 x0 l_n0 l_n1 l_n2 y21_kn3) u) → va_S A s.heap H locs → lv_has ls 4 [(0, .ref (a 32)), (3, .int y21_l3)] → 40 - y21_l3.toInt < (n21 : Int) → W p l e (headSpec wsX6_become ({ frames := 1, cells := 0, slots := 0, locals := 40 })).room s m ([.ref (a 32), .int x0, .int x1]).toArray below meth c H locs 0 0 (MQ below (QE (S := Int32 × Int32 × SU) D (wX cI cS a na nc N (mkL tw l_s l_t l_i l_kp l_iz l_z l_tp l_o0 l_o1 l_o2 l_o3 l_n0 l_n1 l_n2 l_n3) u0) (fun q => wX cI cS a na nc N (mkL tw l_s l_t l_i l_kp l_iz l_z l_tp l_o0 l_o1 l_o2 q.1 l_n0 l_n1 l_n2 q.2.1) q.2.2) s.heap.size (fun q => Rg 0 40 q.2.1 ∧ (q.1.toInt = x0.toInt ∧ (0 ≤ x1.toInt → x1.toInt ≤ 40 → q.2.1.toInt = x1.toInt)))) ([.ref (a 32), .int x0, .int x1]).toArray s 0 0 (va_A (wX cI cS a na nc N (mkL tw l_s l_t l_i l_kp l_iz l_z l_tp l_o0 l_o1 l_o2 l_o3 l_n0 l_n1 l_n2 l_n3) u0) s.heap.size)) (F0 m 21 ls []) := by
    intro n21
    induction n21 with
    | zero =>
      intro y21_l3 y21_kn3 u H locs ls g21_l3 g21_kn3 x21_0 hP hD hS hl hm21
      exact absurd rfl (me_z g21_l3 hm21)
    | succ n21 ih21 =>
      intro y21_l3 y21_kn3 u H locs ls g21_l3 g21_kn3 x21_0 hP hD hS hl hm21
      refine lv_iload_n hx hb dX6_become_21 rfl (lv_at hl 1 rfl) ?_
      refine lv_bipush (v := 40) hx hb dX6_become_22 (by decide) ?_
      refine lv_icmp_ge (tgt := 40) hx hb dX6_become_24 (by decide) (fun c48806 => ?_) (fun c48806 => ?_)
      · have g48807 : Rg 40 40 y21_l3 := rg_ler (by decide : Rg 40 40 (40 : Int32)) g21_l3 c48806 (by decide)
        subst hAe
        exact W.vret hx hb hr (fun t ht hW => ⟨⟨(x0, y21_kn3, u), rfl, ⟨g21_kn3, (show x0.toInt = x0.toInt ∧ (0 ≤ x1.toInt → x1.toInt ≤ 40 → y21_kn3.toInt = x1.toInt) from by have y90 : (40 : Int32).toInt ≤ y21_l3.toInt := (lz_le _ _).mp c48806; have y91 : Rg 40 40 y21_l3 := g48807; have y92 : Rg 40 40 y21_l3 := g48807; have y93 : Rg 0 12 l_s := p_s; have y94 : Rg 0 12 l_t := p_t; have y95 : Rg 0 12 l_i := p_i; have y96 : Rg 0 120 l_tp := p_tp; have y97 : Rg 0 40 l_n0 := p_n0; have y98 : Rg 0 40 l_n1 := p_n1; have y99 : Rg 0 40 l_n2 := p_n2; have y910 : Rg 0 40 y21_kn3 := g21_kn3; have y9c11 : (0 : Int32).toInt = 0 := (by decide); have y9c12 : (1 : Int32).toInt = 1 := (by decide); have y9c13 : (40 : Int32).toInt = 40 := (by decide); omega)⟩, by rw [ht]; exact hP, hD⟩, hS.F ht⟩) hS.2.2 dX6_become_40
      · have g48808 : Rg 0 39 y21_l3 := rg_ltl g21_l3 (by decide : Rg 40 40 (40 : Int32)) (rg_nle c48806) (by decide)
        refine lv_aload_n hx hb dX6_become_27 rfl (lv_at hl 0 rfl) ?_
        refine va_get (D := D) (ci := 6) (v := .ref (a 33)) (C := RX6) (T := TX6) (N := 3) hx hb hts hin6 hown hK hP 32 rfl rfl 0 (by decide) (hts (.fieldLink RX6 9 "MissedPoints$Sheet" "numbers" "[I") (by decide +kernel)) (fun _ h9 => h9) rfl dX6_become_28 ?_
        refine lv_iload_n hx hb dX6_become_31 rfl (lv_at hl 1 rfl) ?_
        refine lv_iconst (v := 0) hx hb dX6_become_32 (by decide) ?_
        refine ks_ast hx hb hK hP hD hS rfl (k := 33) rfl sx_33 (rg_in g48808 (by decide) (by decide)) dX6_become_33 (fun u H locs hP hD hS => ?_)
        refine wk_iinc (lv' := fun r => [(3, .int r), (0, .ref (a 32))]) (e1 := 1) (f := 40) hx hb dX6_become_34 hl (k := 1) rfl (by decide) g48808 (by decide) (fun _ => rfl) (fun r48809 ls hr48809 er48809 hl => ?_)
        refine lv_goto (tgt := 21) hx hb dX6_become_37 (by decide) ?_
        exact ih21 r48809 y21_kn3 u _ _ ls (show Rg 0 40 r48809 from rg_w hr48809 (by decide) (by decide)) g21_kn3 (show (0 ≤ x1.toInt → x1.toInt ≤ 40 → y21_kn3.toInt = x1.toInt) from by have y90 : y21_l3.toInt < (40 : Int32).toInt := (lz_lt _ _).mp (rg_nle c48806); have y91 : Rg 0 39 y21_l3 := g48808; have y92 : Rg 1 40 r48809 := hr48809; have y93 : Rg 0 12 l_s := p_s; have y94 : Rg 0 12 l_t := p_t; have y95 : Rg 0 12 l_i := p_i; have y96 : Rg 0 120 l_tp := p_tp; have y97 : Rg 0 40 l_n0 := p_n0; have y98 : Rg 0 40 l_n1 := p_n1; have y99 : Rg 0 40 l_n2 := p_n2; have y910 : Rg 0 40 y21_kn3 := g21_kn3; have y9c11 : (0 : Int32).toInt = 0 := (by decide); have y9c12 : (1 : Int32).toInt = 1 := (by decide); have y9c13 : (40 : Int32).toInt = 40 := (by decide); omega) hP hD hS (lv_sub (l' := [(0, .ref (a 32)), (3, .int r48809)]) hl [1, 0] rfl) (me_up hm21 er48809 (by decide))
  refine lv_aload_n hx hb dX6_become_0 rfl (lv_at hl 0 rfl) ?_
  refine lv_iload_n hx hb dX6_become_1 rfl (lv_at hl 1 rfl) ?_
  refine va_put (D := D) (ci := 6) (v := .int x0) (ty := .int) (C := RX6) (T := TX6) (N := 3) hx hb hts hin6 tyX6 tyX6_ok nmX6 hown hK hP hD hS 32 rfl rfl 1 (by decide) (hts (.fieldLink RX6 15 "MissedPoints$Sheet" "sort" "I") (by decide +kernel)) (fun _ h9 => h9) rfl (by decide +kernel) rfl rfl (Nat.le_of_ble_eq_true rfl) dX6_become_2 (fun H locs hP hD hS => ?_)
  have hP : va_P D cls (wX cI cS a na nc N (mkL tw l_s l_t l_i l_kp l_iz l_z l_tp l_o0 l_o1 l_o2 x0 l_n0 l_n1 l_n2 l_n3) u) H := hP
  have hD : va_D A (wX cI cS a na nc N (mkL tw l_s l_t l_i l_kp l_iz l_z l_tp l_o0 l_o1 l_o2 x0 l_n0 l_n1 l_n2 l_n3) u) := hD
  refine lv_aload_n hx hb dX6_become_5 rfl (lv_at hl 0 rfl) ?_
  refine lv_iconst (v := 0) hx hb dX6_become_6 (by decide) ?_
  refine lv_iload_n hx hb dX6_become_7 rfl (lv_at hl 2 rfl) ?_
  refine lv_bipush (v := 40) hx hb dX6_become_8 (by decide) ?_
  refine va_mmin hx hb (by rw [hml]; exact hl.1.symm) hown (hts (.methodLink RX6 19 Lib.Math.min.name) (by decide +kernel)) (hts (.static Lib.Math.min.name) (by decide +kernel)) (hts (.initialized "java/lang/Math") (by decide +kernel)) (hts (.code Lib.Math.min.name Lib.Math.min.code 2 (some .int)) (by decide +kernel)) (Nat.le_of_ble_eq_true rfl) (Nat.le_of_ble_eq_true rfl) (Nat.le_of_ble_eq_true rfl) (Nat.le_of_ble_eq_true rfl) dX6_become_10 ?_
  refine wk_topP (P := fun r => Rg (-2147483648) 40 r ∧ (r.toInt ≤ x1.toInt ∧ r.toInt ≤ (40 : Int32).toInt) ∧ (r.toInt = x1.toInt ∨ r.toInt = (40 : Int32).toInt)) ⟨wk_min (rg_any x1) (by decide : Rg 40 40 (40 : Int32)) (by decide), ⟨⟨wk_minE.1, wk_minE.2.1⟩, wk_minE.2.2⟩⟩ (fun r48810 hr48810 => ?_)
  refine va_mmax hx hb (by rw [hml]; exact hl.1.symm) hown (hts (.methodLink RX6 25 Lib.Math.max.name) (by decide +kernel)) (hts (.static Lib.Math.max.name) (by decide +kernel)) (hts (.initialized "java/lang/Math") (by decide +kernel)) (hts (.code Lib.Math.max.name Lib.Math.max.code 2 (some .int)) (by decide +kernel)) (Nat.le_of_ble_eq_true rfl) (Nat.le_of_ble_eq_true rfl) (Nat.le_of_ble_eq_true rfl) (Nat.le_of_ble_eq_true rfl) dX6_become_13 ?_
  refine wk_topP (P := fun r => Rg 0 40 r ∧ ((0 : Int32).toInt ≤ r.toInt ∧ r48810.toInt ≤ r.toInt) ∧ (r.toInt = (0 : Int32).toInt ∨ r.toInt = r48810.toInt)) ⟨wk_max (by decide : Rg 0 0 (0 : Int32)) hr48810.1 (by decide), ⟨⟨wk_maxE.1, wk_maxE.2.1⟩, wk_maxE.2.2⟩⟩ (fun r48811 hr48811 => ?_)
  refine va_put (D := D) (ci := 6) (v := .int r48811) (ty := .int) (C := RX6) (T := TX6) (N := 3) hx hb hts hin6 tyX6 tyX6_ok nmX6 hown hK hP hD hS 32 rfl rfl 2 (by decide) (hts (.fieldLink RX6 28 "MissedPoints$Sheet" "size" "I") (by decide +kernel)) (fun _ h9 => h9) rfl (by decide +kernel) rfl rfl (Nat.le_of_ble_eq_true rfl) dX6_become_16 (fun H locs hP hD hS => ?_)
  have hP : va_P D cls (wX cI cS a na nc N (mkL tw l_s l_t l_i l_kp l_iz l_z l_tp l_o0 l_o1 l_o2 x0 l_n0 l_n1 l_n2 r48811) u) H := hP
  have hD : va_D A (wX cI cS a na nc N (mkL tw l_s l_t l_i l_kp l_iz l_z l_tp l_o0 l_o1 l_o2 x0 l_n0 l_n1 l_n2 r48811) u) := hD
  refine lv_iconst (v := 0) hx hb dX6_become_19 (by decide) ?_
  refine lv_istore_n (lv' := [(3, .int 0), (0, .ref (a 32)), (1, .int x0), (2, .int x1)]) hx hb dX6_become_20 rfl hl (by decide) rfl (fun ls hl => ?_)
  exact lp21 41 (0 : Int32) r48811 u _ _ ls (by decide : Rg 0 40 (0 : Int32)) hr48811.1 (show (0 ≤ x1.toInt → x1.toInt ≤ 40 → r48811.toInt = x1.toInt) from by have y90 : Rg 0 12 l_s := p_s; have y91 : Rg 0 12 l_t := p_t; have y92 : Rg 0 12 l_i := p_i; have y93 : Rg 0 120 l_tp := p_tp; have y94 : Rg 0 40 l_n0 := p_n0; have y95 : Rg 0 40 l_n1 := p_n1; have y96 : Rg 0 40 l_n2 := p_n2; have y97 : Rg 0 40 r48811 := hr48811.1; have y9c8 : (0 : Int32).toInt = 0 := (by decide); have y9c9 : (1 : Int32).toInt = 1 := (by decide); have y9c10 : (40 : Int32).toInt = 40 := (by decide); omega) hP hD hS (lv_sub (l' := [(0, .ref (a 32)), (3, .int 0)]) hl [1, 0] rfl) (me_i (by decide : Rg 0 40 (0 : Int32)) (by decide))
set_option maxHeartbeats 4000000 in
set_option maxRecDepth 100000 in
theorem k_X9_writeTo_3 (l : Launch) (D : va_G) (cI cS : ClassId) (sz : Nat) (a : Nat → Nat) (na nc N : Nat) (tw : SU) (l_s l_t l_i l_kp l_iz l_z l_tp l_o0 l_o1 l_o2 l_o3 l_n0 l_n1 l_n2 l_n3 : Int32) (u0 : SU) (hL : TyX (mkL tw l_s l_t l_i l_kp l_iz l_z l_tp l_o0 l_o1 l_o2 l_o3 l_n0 l_n1 l_n2 l_n3)) (hN : N = 0 ∨ N = 24576) (x0 : Int32) : Met l yX9_writeTo wsX9_writeTo ({ frames := 2, cells := 0, slots := 0, locals := 80 }) (PQ D cI cS (wX cI cS a na nc N (mkL tw l_s l_t l_i l_kp l_iz l_z l_tp l_o0 l_o1 l_o2 l_o3 l_n0 l_n1 l_n2 l_n3) u0) sz [.ref (a 34), .ref (a 32), .int x0]) (QE (S := Int32 × Int32 × SU) D (wX cI cS a na nc N (mkL tw l_s l_t l_i l_kp l_iz l_z l_tp l_o0 l_o1 l_o2 l_o3 l_n0 l_n1 l_n2 l_n3) u0) (fun q => wX cI cS a na nc N (mkL tw l_s l_t l_i l_kp l_iz l_z l_tp l_o0 l_o1 l_o2 q.1 l_n0 l_n1 l_n2 q.2.1) q.2.2) sz (fun q => Rg 0 40 q.2.1 ∧ (q.1.toInt = x0.toInt ∧ q.2.1.toInt = l_s.toInt))) 0 0 (va_A (wX cI cS a na nc N (mkL tw l_s l_t l_i l_kp l_iz l_z l_tp l_o0 l_o1 l_o2 l_o3 l_n0 l_n1 l_n2 l_n3) u0) sz) := by
  refine Met.ofW (cc := cX9_writeTo) (maxL := 4) (ret := none) (by decide) rfl ?_
  intro p e s m args below meth c s₁ B hml hv
  obtain ⟨rfl, hsz, hP, hKK, hD0⟩ := hv
  have hx := B.exec
  have hb := B.bytes
  have hr := B.returns
  have hts := atoms_spec (ws := wsX9_writeTo) B.pre
  have hown : s.vm.findClass RX9 = some m.cls := findClass_of_methodNamed B.named
  have hlocks := B.notSynchronized
  have hK := hKK.1
  have hin2 : ∀ w ∈ wsX20, w ∈ wsX9_writeTo := by decide +kernel
  have hin9 : ∀ w ∈ wsX90, w ∈ wsX9_writeTo := by decide +kernel
  subst hsz
  have hD := hD0.self (sz := s.heap.size)
  obtain ⟨A, hAe⟩ : ∃ A, A = va_A (wX cI cS a na nc N (mkL tw l_s l_t l_i l_kp l_iz l_z l_tp l_o0 l_o1 l_o2 l_o3 l_n0 l_n1 l_n2 l_n3) u0) s.heap.size := ⟨_, rfl⟩
  rw [← hAe] at hD
  have hA : ∀ q : Nat, s.heap.size ≤ q → A q := fun q h => by rw [hAe]; exact Or.inr h
  have hS : va_S A s.heap s.heap [] := va_S.rf
  have hl := lv_entry ([.ref (a 34), .ref (a 32), .int x0]) (n := 4) (Nat.le_of_ble_eq_true rfl)
  rw [lg_entry_eq]
  generalize (lg_sl ([.ref (a 34), .ref (a 32), .int x0]) ++ List.replicate (4 - (lg_sl ([.ref (a 34), .ref (a 32), .int x0])).length) Slot.unset).toArray = ls at hl ⊢
  have hl : lv_has ls 4 [(0, .ref (a 34)), (1, .ref (a 32)), (2, .int x0)] := hl
  obtain ⟨u, hu9⟩ : ∃ u : SU, u = u0 := ⟨_, rfl⟩
  rw [← hu9] at hP hD
  have p_s : Rg 0 12 l_s := hL.1
  have p_t : Rg 0 12 l_t := hL.2.1
  have p_i : Rg 0 12 l_i := hL.2.2.1
  have p_tp : Rg 0 120 l_tp := hL.2.2.2.1
  have p_n0 : Rg 0 40 l_n0 := hL.2.2.2.2.1
  have p_n1 : Rg 0 40 l_n1 := hL.2.2.2.2.2.1
  have p_n2 : Rg 0 40 l_n2 := hL.2.2.2.2.2.2.1
  have p_n3 : Rg 0 40 l_n3 := hL.2.2.2.2.2.2.2
  have lp14 : ∀ (n14 : Nat) (y14_l3 : Int32) (y14_ko3 : Int32) (y14_kn3 : Int32) (u : SU) (H : Heap) (locs : List Loc) (ls : Array Slot), Rg 0 12 y14_l3 → Rg 0 40 y14_kn3 → (y14_ko3.toInt = x0.toInt ∧ y14_kn3.toInt = l_s.toInt) → va_P D cls (wX cI cS a na nc N (mkL tw l_s l_t l_i l_kp l_iz l_z l_tp l_o0 l_o1 l_o2 y14_ko3 l_n0 l_n1 l_n2 y14_kn3) u) H → va_D A (wX cI cS a na nc N (mkL tw l_s l_t l_i l_kp l_iz l_z l_tp l_o0 l_o1 l_o2 y14_ko3 l_n0 l_n1 l_n2 y14_kn3) u) → va_S A s.heap H locs → lv_has ls 4 [(0, .ref (a 34)), (1, .ref (a 32)), (3, .int y14_l3)] → 12 - y14_l3.toInt < (n14 : Int) → W p l e (headSpec wsX9_writeTo ({ frames := 2, cells := 0, slots := 0, locals := 80 })).room s m ([.ref (a 34), .ref (a 32), .int x0]).toArray below meth c H locs 0 0 (MQ below (QE (S := Int32 × Int32 × SU) D (wX cI cS a na nc N (mkL tw l_s l_t l_i l_kp l_iz l_z l_tp l_o0 l_o1 l_o2 l_o3 l_n0 l_n1 l_n2 l_n3) u0) (fun q => wX cI cS a na nc N (mkL tw l_s l_t l_i l_kp l_iz l_z l_tp l_o0 l_o1 l_o2 q.1 l_n0 l_n1 l_n2 q.2.1) q.2.2) s.heap.size (fun q => Rg 0 40 q.2.1 ∧ (q.1.toInt = x0.toInt ∧ q.2.1.toInt = l_s.toInt))) ([.ref (a 34), .ref (a 32), .int x0]).toArray s 0 0 (va_A (wX cI cS a na nc N (mkL tw l_s l_t l_i l_kp l_iz l_z l_tp l_o0 l_o1 l_o2 l_o3 l_n0 l_n1 l_n2 l_n3) u0) s.heap.size)) (F0 m 14 ls []) := by
    intro n14
    induction n14 with
    | zero =>
      intro y14_l3 y14_ko3 y14_kn3 u H locs ls g14_l3 g14_kn3 x14_0 hP hD hS hl hm14
      exact absurd rfl (me_z g14_l3 hm14)
    | succ n14 ih14 =>
      intro y14_l3 y14_ko3 y14_kn3 u H locs ls g14_l3 g14_kn3 x14_0 hP hD hS hl hm14
      refine lv_iload_n hx hb dX9_writeTo_14 rfl (lv_at hl 2 rfl) ?_
      refine lv_aload_n hx hb dX9_writeTo_15 rfl (lv_at hl 0 rfl) ?_
      refine va_get (D := D) (ci := 9) (v := .ref (a 1)) (C := RX9) (T := TX9) (N := 6) hx hb hts hin9 hown hK hP 34 rfl rfl 0 (by decide) (hts (.fieldLink RX9 21 "MissedPoints$Told" "net" "LMissedPoints$Net;") (by decide +kernel)) (fun _ h9 => h9) rfl dX9_writeTo_16 ?_
      refine va_getN (D := D) (ci := 2) (v := .int l_s) (C := RX2) (T := TX2) (N := 3) hx hb hts hin2 hown hK hP 1 rfl rfl 1 (by decide) (va_Nw.use rfl hKK.2.2.2.2.2.2.2.2.2.2.2.2.2.2.2.2.1) (fun _ h9 => h9) rfl dX9_writeTo_19 ?_
      refine lv_icmp_ge (tgt := 42) hx hb dX9_writeTo_22 (by decide) (fun c48893 => ?_) (fun c48893 => ?_)
      · subst hAe
        exact W.vret hx hb hr (fun t ht hW => ⟨⟨(y14_ko3, y14_kn3, u), rfl, ⟨g14_kn3, (show y14_ko3.toInt = x0.toInt ∧ y14_kn3.toInt = l_s.toInt from by have y90 : l_s.toInt ≤ y14_l3.toInt := (lz_le _ _).mp c48893; have y91 : Rg 0 12 y14_l3 := g14_l3; have y92 : Rg 0 12 l_s := p_s; have y93 : Rg 0 12 l_t := p_t; have y94 : Rg 0 12 l_i := p_i; have y95 : Rg 0 120 l_tp := p_tp; have y96 : Rg 0 40 l_n0 := p_n0; have y97 : Rg 0 40 l_n1 := p_n1; have y98 : Rg 0 40 l_n2 := p_n2; have y99 : Rg 0 40 y14_kn3 := g14_kn3; have y9c10 : (0 : Int32).toInt = 0 := (by decide); have y9c11 : (1 : Int32).toInt = 1 := (by decide); omega)⟩, by rw [ht]; exact hP, hD⟩, hS.F ht⟩) hS.2.2 dX9_writeTo_42
      · have g48894 : Rg 1 12 l_s := rg_ltr g14_l3 p_s (rg_nle c48893) (by decide)
        have g48895 : Rg 0 11 y14_l3 := rg_ltl g14_l3 p_s (rg_nle c48893) (by decide)
        refine lv_aload_n hx hb dX9_writeTo_25 rfl (lv_at hl 1 rfl) ?_
        refine lv_iload_n hx hb dX9_writeTo_26 rfl (lv_at hl 2 rfl) ?_
        refine lv_aload_n hx hb dX9_writeTo_27 rfl (lv_at hl 0 rfl) ?_
        refine va_get (D := D) (ci := 9) (v := .ref (a 35)) (C := RX9) (T := TX9) (N := 6) hx hb hts hin9 hown hK hP 34 rfl rfl 2 (by decide) (hts (.fieldLink RX9 9 "MissedPoints$Told" "mates" "[I") (by decide +kernel)) (fun _ h9 => h9) rfl dX9_writeTo_28 ?_
        refine lv_iload_n hx hb dX9_writeTo_31 rfl (lv_at hl 2 rfl) ?_
        refine wk_aldA hx hb hK hP 35 0 rfl rfl (rg_in g48895 (by decide) (by decide)) dX9_writeTo_32 (fun r48896 => ?_)
        refine wk_qv (wX cI cS a na nc N (mkL tw l_s l_t l_i l_kp l_iz l_z l_tp l_o0 l_o1 l_o2 y14_ko3 l_n0 l_n1 l_n2 y14_kn3)) u (As := [.int y14_l3, .int r48896]) (rest := []) ⟨hx, hb, hml, hown, hts⟩ (k_X6_store l D cI cS _ a na nc N (mkL tw l_s l_t l_i l_kp l_iz l_z l_tp l_o0 l_o1 l_o2 y14_ko3 l_n0 l_n1 l_n2 y14_kn3) u (show TyX (mkL tw l_s l_t l_i l_kp l_iz l_z l_tp l_o0 l_o1 l_o2 y14_ko3 l_n0 l_n1 l_n2 y14_kn3) from ⟨(show Rg 0 12 l_s from rg_w g48894 (by decide) (by decide)), p_t, p_i, p_tp, p_n0, p_n1, p_n2, g14_kn3⟩) hN 3 (by decide) y14_l3 r48896) hKK hP hD hS hA 32 (ci := 6) rfl rfl (cwV 2 hts gX9_writeTo_X6_store rfl rfl rfl (by decide +kernel) ⟨Nat.le_of_ble_eq_true rfl, Nat.le_of_ble_eq_true rfl⟩) rfl hl.1 rfl (Nat.le_of_ble_eq_true rfl) dX9_writeTo_33 ⟨Nat.le_of_ble_eq_true rfl, Nat.le_of_ble_eq_true rfl⟩ (fun u H locs hr48897 hP hD hS => ?_)
        refine wk_iinc (lv' := fun r => [(3, .int r), (0, .ref (a 34)), (1, .ref (a 32))]) (e1 := 1) (f := 12) hx hb dX9_writeTo_36 hl (k := 2) rfl (by decide) g48895 (by decide) (fun _ => rfl) (fun r48898 ls hr48898 er48898 hl => ?_)
        refine lv_goto (tgt := 14) hx hb dX9_writeTo_39 (by decide) ?_
        exact ih14 r48898 y14_ko3 y14_kn3 u _ _ ls (show Rg 0 12 r48898 from rg_w hr48898 (by decide) (by decide)) g14_kn3 (show (y14_ko3.toInt = x0.toInt ∧ y14_kn3.toInt = l_s.toInt) from by have y90 : y14_l3.toInt < l_s.toInt := (lz_lt _ _).mp (rg_nle c48893); have y91 : Rg 1 12 l_s := g48894; have y92 : Rg 0 11 y14_l3 := g48895; have y93 : Rg 1 12 r48898 := hr48898; have y94 : Rg 1 12 l_s := g48894; have y95 : Rg 0 12 l_t := p_t; have y96 : Rg 0 12 l_i := p_i; have y97 : Rg 0 120 l_tp := p_tp; have y98 : Rg 0 40 l_n0 := p_n0; have y99 : Rg 0 40 l_n1 := p_n1; have y910 : Rg 0 40 l_n2 := p_n2; have y911 : Rg 0 40 y14_kn3 := g14_kn3; have y9c12 : (0 : Int32).toInt = 0 := (by decide); have y9c13 : (1 : Int32).toInt = 1 := (by decide); omega) hP hD hS (lv_sub (l' := [(0, .ref (a 34)), (1, .ref (a 32)), (3, .int r48898)]) hl [1, 2, 0] rfl) (me_up hm14 er48898 (by decide))
  refine lv_aload_n hx hb dX9_writeTo_0 rfl (lv_at hl 1 rfl) ?_
  refine lv_iload_n hx hb dX9_writeTo_1 rfl (lv_at hl 2 rfl) ?_
  refine lv_aload_n hx hb dX9_writeTo_2 rfl (lv_at hl 0 rfl) ?_
  refine va_get (D := D) (ci := 9) (v := .ref (a 1)) (C := RX9) (T := TX9) (N := 6) hx hb hts hin9 hown hK hP 34 rfl rfl 0 (by decide) (hts (.fieldLink RX9 21 "MissedPoints$Told" "net" "LMissedPoints$Net;") (by decide +kernel)) (fun _ h9 => h9) rfl dX9_writeTo_3 ?_
  refine va_getN (D := D) (ci := 2) (v := .int l_s) (C := RX2) (T := TX2) (N := 3) hx hb hts hin2 hown hK hP 1 rfl rfl 1 (by decide) (va_Nw.use rfl hKK.2.2.2.2.2.2.2.2.2.2.2.2.2.2.2.2.1) (fun _ h9 => h9) rfl dX9_writeTo_6 ?_
  refine wk_qv (S := Int32 × Int32 × SU) (fun q => wX cI cS a na nc N (mkL tw l_s l_t l_i l_kp l_iz l_z l_tp l_o0 l_o1 l_o2 q.1 l_n0 l_n1 l_n2 q.2.1) q.2.2) (l_o3, l_n3, u) (As := [.int x0, .int l_s]) (rest := []) ⟨hx, hb, hml, hown, hts⟩ (k_X6_become_3 l D cI cS _ a na nc N tw l_s l_t l_i l_kp l_iz l_z l_tp l_o0 l_o1 l_o2 l_o3 l_n0 l_n1 l_n2 l_n3 u (show TyX (mkL tw l_s l_t l_i l_kp l_iz l_z l_tp l_o0 l_o1 l_o2 l_o3 l_n0 l_n1 l_n2 l_n3) from ⟨p_s, p_t, p_i, p_tp, p_n0, p_n1, p_n2, p_n3⟩) hN x0 l_s) hKK hP hD hS hA 32 (ci := 6) rfl rfl (cwV 2 hts gX9_writeTo_X6_become rfl rfl rfl (by decide +kernel) ⟨Nat.le_of_ble_eq_true rfl, Nat.le_of_ble_eq_true rfl⟩) rfl hl.1 rfl (Nat.le_of_ble_eq_true rfl) dX9_writeTo_9 ⟨Nat.le_of_ble_eq_true rfl, Nat.le_of_ble_eq_true rfl⟩ (fun q9 H locs hr48899 hP hD hS => ?_)
  obtain ⟨r48900, r48901, u⟩ := q9
  have hr48899 : Rg 0 40 r48901 ∧ (r48900.toInt = x0.toInt ∧ (0 ≤ l_s.toInt → l_s.toInt ≤ 40 → r48901.toInt = l_s.toInt)) := hr48899
  have hP : va_P D cls (wX cI cS a na nc N (mkL tw l_s l_t l_i l_kp l_iz l_z l_tp l_o0 l_o1 l_o2 r48900 l_n0 l_n1 l_n2 r48901) u) H := hP
  have hD : va_D A (wX cI cS a na nc N (mkL tw l_s l_t l_i l_kp l_iz l_z l_tp l_o0 l_o1 l_o2 r48900 l_n0 l_n1 l_n2 r48901) u) := hD
  have kr48899_0 := hr48899.2
  refine lv_iconst (v := 0) hx hb dX9_writeTo_12 (by decide) ?_
  refine lv_istore_n (lv' := [(3, .int 0), (0, .ref (a 34)), (1, .ref (a 32)), (2, .int x0)]) hx hb dX9_writeTo_13 rfl hl (by decide) rfl (fun ls hl => ?_)
  exact lp14 13 (0 : Int32) r48900 r48901 u _ _ ls (by decide : Rg 0 12 (0 : Int32)) hr48899.1 (show (r48900.toInt = x0.toInt ∧ r48901.toInt = l_s.toInt) from by have y90 : Rg 0 12 l_s := p_s; have y91 : Rg 0 12 l_t := p_t; have y92 : Rg 0 12 l_i := p_i; have y93 : Rg 0 120 l_tp := p_tp; have y94 : Rg 0 40 l_n0 := p_n0; have y95 : Rg 0 40 l_n1 := p_n1; have y96 : Rg 0 40 l_n2 := p_n2; have y97 : Rg 0 40 r48901 := hr48899.1; have y9c8 : (0 : Int32).toInt = 0 := (by decide); have y9c9 : (1 : Int32).toInt = 1 := (by decide); omega) hP hD hS (lv_sub (l' := [(0, .ref (a 34)), (1, .ref (a 32)), (3, .int 0)]) hl [1, 2, 0] rfl) (me_i (by decide : Rg 0 12 (0 : Int32)) (by decide))
set_option maxRecDepth 20000 in
theorem ggX11_points_X2_add : GoodIn wsX11_points wsX2_add := goodIn_r _ [6, 7, 8, 9, 10, 11, 12, 29, 30, 31] rfl (by decide +kernel)
set_option maxRecDepth 20000 in
theorem gX11_points_X2_add : GoodIn wsX11_points (wsV RX11 101 RX2 yX2_add wsX2_add) := goodIn_app (goodIn_of _ (by decide +kernel)) ggX11_points_X2_add
theorem dX11_points_0 : decode cX11_points 0 = .ok (.iload_n 1, 1) := by decide +kernel
theorem dX11_points_1 : decode cX11_points 1 = .ok (.iconst 1, 1) := by decide +kernel
theorem dX11_points_11 : decode cX11_points 11 = .ok (.bipush (-2), 2) := by decide +kernel
theorem dX11_points_13 : decode cX11_points 13 = .ok (.ireturn, 1) := by decide +kernel
theorem dX11_points_14 : decode cX11_points 14 = .ok (.iload_n 1, 1) := by decide +kernel
theorem dX11_points_15 : decode cX11_points 15 = .ok (.bipush 12, 2) := by decide +kernel
theorem dX11_points_17 : decode cX11_points 17 = .ok (.aload_n 0, 1) := by decide +kernel
theorem dX11_points_18 : decode cX11_points 18 = .ok (.getfield 12, 3) := by decide +kernel
theorem dX11_points_2 : decode cX11_points 2 = .ok (.if_icmp .lt 9, 3) := by decide +kernel
theorem dX11_points_21 : decode cX11_points 21 = .ok (.getfield 97, 3) := by decide +kernel
theorem dX11_points_24 : decode cX11_points 24 = .ok (.isub, 1) := by decide +kernel
theorem dX11_points_25 : decode cX11_points 25 = .ok (.if_icmp .le 6, 3) := by decide +kernel
theorem dX11_points_28 : decode cX11_points 28 = .ok (.bipush (-4), 2) := by decide +kernel
theorem dX11_points_30 : decode cX11_points 30 = .ok (.ireturn, 1) := by decide +kernel
theorem dX11_points_31 : decode cX11_points 31 = .ok (.aload_n 0, 1) := by decide +kernel
theorem dX11_points_32 : decode cX11_points 32 = .ok (.getfield 12, 3) := by decide +kernel
theorem dX11_points_35 : decode cX11_points 35 = .ok (.iload_n 1, 1) := by decide +kernel
theorem dX11_points_36 : decode cX11_points 36 = .ok (.invokevirtual 101, 3) := by decide +kernel
theorem dX11_points_39 : decode cX11_points 39 = .ok (.aload_n 0, 1) := by decide +kernel
theorem dX11_points_40 : decode cX11_points 40 = .ok (.getfield 12, 3) := by decide +kernel
theorem dX11_points_43 : decode cX11_points 43 = .ok (.getfield 97, 3) := by decide +kernel
theorem dX11_points_46 : decode cX11_points 46 = .ok (.ireturn, 1) := by decide +kernel
theorem dX11_points_5 : decode cX11_points 5 = .ok (.iload_n 1, 1) := by decide +kernel
theorem dX11_points_6 : decode cX11_points 6 = .ok (.bipush 12, 2) := by decide +kernel
theorem dX11_points_8 : decode cX11_points 8 = .ok (.if_icmp .le 6, 3) := by decide +kernel
set_option maxHeartbeats 4000000 in
set_option maxRecDepth 100000 in
theorem k_X11_points (l : Launch) (D : va_G) (cI cS : ClassId) (sz : Nat) (a : Nat → Nat) (na nc N : Nat) (tw : SU) (l_s l_t l_i l_kp l_iz l_z l_tp l_o0 l_o1 l_o2 l_o3 l_n0 l_n1 l_n2 l_n3 : Int32) (u0 : SU) (hL : TyX (mkL tw l_s l_t l_i l_kp l_iz l_z l_tp l_o0 l_o1 l_o2 l_o3 l_n0 l_n1 l_n2 l_n3)) (hN : N = 0 ∨ N = 24576) (x0 : Int32) : Met l yX11_points wsX11_points ({ frames := 2, cells := 0, slots := 0, locals := 80 }) (PQ D cI cS (wX cI cS a na nc N (mkL tw l_s l_t l_i l_kp l_iz l_z l_tp l_o0 l_o1 l_o2 l_o3 l_n0 l_n1 l_n2 l_n3) u0) sz [.ref (a 0), .int x0]) (QF (S := Int32 × SU) D (wX cI cS a na nc N (mkL tw l_s l_t l_i l_kp l_iz l_z l_tp l_o0 l_o1 l_o2 l_o3 l_n0 l_n1 l_n2 l_n3) u0) (fun q => wX cI cS a na nc N (mkL tw q.1 l_t l_i l_kp l_iz l_z l_tp l_o0 l_o1 l_o2 l_o3 l_n0 l_n1 l_n2 l_n3) q.2) sz (fun r q => Rg (-4) 12 r ∧ Rg 0 12 q.1 ∧ ((x0.toInt < 1 ∨ 12 < x0.toInt → r.toInt = -2 ∧ q.1.toInt = l_s.toInt) ∧ (1 ≤ x0.toInt → x0.toInt ≤ 12 → 12 < l_s.toInt + x0.toInt → r.toInt = -4 ∧ q.1.toInt = l_s.toInt) ∧ (1 ≤ x0.toInt → x0.toInt ≤ 12 → l_s.toInt + x0.toInt ≤ 12 → r.toInt = l_s.toInt + x0.toInt ∧ q.1.toInt = l_s.toInt + x0.toInt)))) 0 0 (va_A (wX cI cS a na nc N (mkL tw l_s l_t l_i l_kp l_iz l_z l_tp l_o0 l_o1 l_o2 l_o3 l_n0 l_n1 l_n2 l_n3) u0) sz) := by
  refine Met.ofW (cc := cX11_points) (maxL := 2) (ret := (some .int)) (by decide) rfl ?_
  intro p e s m args below meth c s₁ B hml hv
  obtain ⟨rfl, hsz, hP, hKK, hD0⟩ := hv
  have hx := B.exec
  have hb := B.bytes
  have hr := B.returns
  have hts := atoms_spec (ws := wsX11_points) B.pre
  have hown : s.vm.findClass RX11 = some m.cls := findClass_of_methodNamed B.named
  have hlocks := B.notSynchronized
  have hK := hKK.1
  have hin2 : ∀ w ∈ wsX20, w ∈ wsX11_points := by decide +kernel
  have hin11 : ∀ w ∈ wsX110, w ∈ wsX11_points := by decide +kernel
  subst hsz
  have hD := hD0.self (sz := s.heap.size)
  obtain ⟨A, hAe⟩ : ∃ A, A = va_A (wX cI cS a na nc N (mkL tw l_s l_t l_i l_kp l_iz l_z l_tp l_o0 l_o1 l_o2 l_o3 l_n0 l_n1 l_n2 l_n3) u0) s.heap.size := ⟨_, rfl⟩
  rw [← hAe] at hD
  have hA : ∀ q : Nat, s.heap.size ≤ q → A q := fun q h => by rw [hAe]; exact Or.inr h
  have hS : va_S A s.heap s.heap [] := va_S.rf
  have hl := lv_entry ([.ref (a 0), .int x0]) (n := 2) (Nat.le_of_ble_eq_true rfl)
  rw [lg_entry_eq]
  generalize (lg_sl ([.ref (a 0), .int x0]) ++ List.replicate (2 - (lg_sl ([.ref (a 0), .int x0])).length) Slot.unset).toArray = ls at hl ⊢
  have hl : lv_has ls 2 [(0, .ref (a 0)), (1, .int x0)] := hl
  obtain ⟨u, hu9⟩ : ∃ u : SU, u = u0 := ⟨_, rfl⟩
  rw [← hu9] at hP hD
  have p_s : Rg 0 12 l_s := hL.1
  have p_t : Rg 0 12 l_t := hL.2.1
  have p_i : Rg 0 12 l_i := hL.2.2.1
  have p_tp : Rg 0 120 l_tp := hL.2.2.2.1
  have p_n0 : Rg 0 40 l_n0 := hL.2.2.2.2.1
  have p_n1 : Rg 0 40 l_n1 := hL.2.2.2.2.2.1
  have p_n2 : Rg 0 40 l_n2 := hL.2.2.2.2.2.2.1
  have p_n3 : Rg 0 40 l_n3 := hL.2.2.2.2.2.2.2
  refine lv_iload_n hx hb dX11_points_0 rfl (lv_at hl 1 rfl) ?_
  refine lv_iconst (v := 1) hx hb dX11_points_1 (by decide) ?_
  refine lv_icmp_lt (tgt := 11) hx hb dX11_points_2 (by decide) (fun c48914 => ?_) (fun c48914 => ?_)
  · have g48915 : Rg (-2147483648) 0 x0 := rg_ltl (rg_any x0) (by decide : Rg 1 1 (1 : Int32)) c48914 (by decide)
    refine lv_bipush (v := (-2)) hx hb dX11_points_11 (by decide) ?_
    subst hAe
    exact W.iret (v := (-2)) hx hb hr (fun t ht hW => ⟨⟨_, (l_s, u), rfl, ⟨(by decide : Rg (-4) 12 ((-2) : Int32)), p_s, (show (x0.toInt < 1 ∨ 12 < x0.toInt → ((-2) : Int32).toInt = -2 ∧ l_s.toInt = l_s.toInt) ∧ (1 ≤ x0.toInt → x0.toInt ≤ 12 → 12 < l_s.toInt + x0.toInt → ((-2) : Int32).toInt = -4 ∧ l_s.toInt = l_s.toInt) ∧ (1 ≤ x0.toInt → x0.toInt ≤ 12 → l_s.toInt + x0.toInt ≤ 12 → ((-2) : Int32).toInt = l_s.toInt + x0.toInt ∧ l_s.toInt = l_s.toInt + x0.toInt) from by have y90 : x0.toInt < (1 : Int32).toInt := (lz_lt _ _).mp c48914; have y91 : Rg (-2147483648) 0 x0 := g48915; have y92 : Rg (-2147483648) 0 x0 := g48915; have y93 : Rg 0 12 l_s := p_s; have y94 : Rg 0 12 l_t := p_t; have y95 : Rg 0 12 l_i := p_i; have y96 : Rg 0 120 l_tp := p_tp; have y97 : Rg 0 40 l_n0 := p_n0; have y98 : Rg 0 40 l_n1 := p_n1; have y99 : Rg 0 40 l_n2 := p_n2; have y910 : Rg 0 40 l_n3 := p_n3; have y9c11 : ((-2) : Int32).toInt = -2 := (by decide); have y9c12 : (0 : Int32).toInt = 0 := (by decide); have y9c13 : (1 : Int32).toInt = 1 := (by decide); omega)⟩, by rw [ht]; exact hP, hD⟩, hS.F ht⟩) hS.2.2 dX11_points_13
  · have g48916 : Rg 1 2147483647 x0 := rg_ler (by decide : Rg 1 1 (1 : Int32)) (rg_any x0) (rg_nlt c48914) (by decide)
    refine lv_iload_n hx hb dX11_points_5 rfl (lv_at hl 1 rfl) ?_
    refine lv_bipush (v := 12) hx hb dX11_points_6 (by decide) ?_
    refine lv_icmp_le (tgt := 14) hx hb dX11_points_8 (by decide) (fun c48917 => ?_) (fun c48917 => ?_)
    · have g48918 : Rg 1 12 x0 := rg_lel g48916 (by decide : Rg 12 12 (12 : Int32)) c48917 (by decide)
      refine lv_iload_n hx hb dX11_points_14 rfl (lv_at hl 1 rfl) ?_
      refine lv_bipush (v := 12) hx hb dX11_points_15 (by decide) ?_
      refine lv_aload_n hx hb dX11_points_17 rfl (lv_at hl 0 rfl) ?_
      refine va_get (D := D) (ci := 11) (v := .ref (a 1)) (C := RX11) (T := TX11) (N := 16) hx hb hts hin11 hown hK hP 0 rfl rfl 0 (by decide) (hts (.fieldLink RX11 12 "MissedPoints" "net" "LMissedPoints$Net;") (by decide +kernel)) (fun _ h9 => h9) rfl dX11_points_18 ?_
      refine va_getN (D := D) (ci := 2) (v := .int l_s) (C := RX2) (T := TX2) (N := 3) hx hb hts hin2 hown hK hP 1 rfl rfl 1 (by decide) (va_Nw.use rfl hKK.2.2.2.2.2.2.2.2.2.2.1) (fun _ h9 => h9) rfl dX11_points_21 ?_
      refine wk_isub (e1 := 0) (f := 12) hx hb dX11_points_24 (by decide : Rg 12 12 (12 : Int32)) p_s (by decide) (fun r48919 hr48919 er48919 qr48919 => ?_)
      refine lv_icmp_le (tgt := 31) hx hb dX11_points_25 (by decide) (fun c48920 => ?_) (fun c48920 => ?_)
      · have g48921 : Rg 1 12 r48919 := rg_ler g48918 hr48919 c48920 (by decide)
        refine lv_aload_n hx hb dX11_points_31 rfl (lv_at hl 0 rfl) ?_
        refine va_get (D := D) (ci := 11) (v := .ref (a 1)) (C := RX11) (T := TX11) (N := 16) hx hb hts hin11 hown hK hP 0 rfl rfl 0 (by decide) (hts (.fieldLink RX11 12 "MissedPoints" "net" "LMissedPoints$Net;") (by decide +kernel)) (fun _ h9 => h9) rfl dX11_points_32 ?_
        refine lv_iload_n hx hb dX11_points_35 rfl (lv_at hl 1 rfl) ?_
        refine wk_qv (S := Int32 × SU) (fun q => wX cI cS a na nc N (mkL tw q.1 l_t l_i l_kp l_iz l_z l_tp l_o0 l_o1 l_o2 l_o3 l_n0 l_n1 l_n2 l_n3) q.2) (l_s, u) (As := [.int x0]) (rest := []) ⟨hx, hb, hml, hown, hts⟩ (k_X2_add l D cI cS _ a na nc N tw l_s l_t l_i l_kp l_iz l_z l_tp l_o0 l_o1 l_o2 l_o3 l_n0 l_n1 l_n2 l_n3 u (show TyX (mkL tw l_s l_t l_i l_kp l_iz l_z l_tp l_o0 l_o1 l_o2 l_o3 l_n0 l_n1 l_n2 l_n3) from ⟨p_s, p_t, p_i, p_tp, p_n0, p_n1, p_n2, p_n3⟩) hN x0 (show Rg 0 12 x0 from rg_w g48918 (by decide) (by decide))) hKK hP hD hS hA 1 (ci := 2) rfl rfl (cwV 1 hts gX11_points_X2_add rfl rfl rfl (by decide +kernel) ⟨Nat.le_of_ble_eq_true rfl, Nat.le_of_ble_eq_true rfl⟩) rfl hl.1 rfl (Nat.le_of_ble_eq_true rfl) dX11_points_36 ⟨Nat.le_of_ble_eq_true rfl, Nat.le_of_ble_eq_true rfl⟩ (fun q9 H locs hr48922 hP hD hS => ?_)
        obtain ⟨r48923, u⟩ := q9
        have hr48922 : Rg 0 12 r48923 ∧ ((l_s.toInt + x0.toInt ≤ 12 → r48923.toInt = l_s.toInt + x0.toInt)) := hr48922
        have hP : va_P D cls (wX cI cS a na nc N (mkL tw r48923 l_t l_i l_kp l_iz l_z l_tp l_o0 l_o1 l_o2 l_o3 l_n0 l_n1 l_n2 l_n3) u) H := hP
        have hD : va_D A (wX cI cS a na nc N (mkL tw r48923 l_t l_i l_kp l_iz l_z l_tp l_o0 l_o1 l_o2 l_o3 l_n0 l_n1 l_n2 l_n3) u) := hD
        have kr48922_0 := hr48922.2
        refine lv_aload_n hx hb dX11_points_39 rfl (lv_at hl 0 rfl) ?_
        refine va_get (D := D) (ci := 11) (v := .ref (a 1)) (C := RX11) (T := TX11) (N := 16) hx hb hts hin11 hown hK hP 0 rfl rfl 0 (by decide) (hts (.fieldLink RX11 12 "MissedPoints" "net" "LMissedPoints$Net;") (by decide +kernel)) (fun _ h9 => h9) rfl dX11_points_40 ?_
        refine va_getN (D := D) (ci := 2) (v := .int r48923) (C := RX2) (T := TX2) (N := 3) hx hb hts hin2 hown hK hP 1 rfl rfl 1 (by decide) (va_Nw.use rfl hKK.2.2.2.2.2.2.2.2.2.2.1) (fun _ h9 => h9) rfl dX11_points_43 ?_
        subst hAe
        exact W.iret (v := r48923) hx hb hr (fun t ht hW => ⟨⟨_, (r48923, u), rfl, ⟨(show Rg (-4) 12 r48923 from rg_w hr48922.1 (by decide) (by decide)), hr48922.1, (show (x0.toInt < 1 ∨ 12 < x0.toInt → r48923.toInt = -2 ∧ r48923.toInt = l_s.toInt) ∧ (1 ≤ x0.toInt → x0.toInt ≤ 12 → 12 < l_s.toInt + x0.toInt → r48923.toInt = -4 ∧ r48923.toInt = l_s.toInt) ∧ (1 ≤ x0.toInt → x0.toInt ≤ 12 → l_s.toInt + x0.toInt ≤ 12 → r48923.toInt = l_s.toInt + x0.toInt ∧ r48923.toInt = l_s.toInt + x0.toInt) from by have y90 : (1 : Int32).toInt ≤ x0.toInt := (lz_le _ _).mp (rg_nlt c48914); have y91 : x0.toInt ≤ (12 : Int32).toInt := (lz_le _ _).mp c48917; have y92 : x0.toInt ≤ r48919.toInt := (lz_le _ _).mp c48920; have y93 : Rg 1 12 x0 := g48918; have y94 : Rg 1 12 r48919 := g48921; have y95 : Rg 1 12 x0 := g48918; have y96 : Rg 0 12 r48923 := hr48922.1; have y97 : Rg 0 12 r48923 := hr48922.1; have y98 : Rg 0 12 l_t := p_t; have y99 : Rg 0 12 l_i := p_i; have y910 : Rg 0 120 l_tp := p_tp; have y911 : Rg 0 40 l_n0 := p_n0; have y912 : Rg 0 40 l_n1 := p_n1; have y913 : Rg 0 40 l_n2 := p_n2; have y914 : Rg 0 40 l_n3 := p_n3; have y915 : Rg 0 12 r48923 := hr48922.1; have y9c16 : (0 : Int32).toInt = 0 := (by decide); have y9c17 : (1 : Int32).toInt = 1 := (by decide); have y9c18 : (12 : Int32).toInt = 12 := (by decide); omega)⟩, by rw [ht]; exact hP, hD⟩, hS.F ht⟩) hS.2.2 dX11_points_46
      · have g48924 : Rg 0 11 r48919 := rg_ltl hr48919 g48918 (rg_nle c48920) (by decide)
        refine lv_bipush (v := (-4)) hx hb dX11_points_28 (by decide) ?_
        subst hAe
        exact W.iret (v := (-4)) hx hb hr (fun t ht hW => ⟨⟨_, (l_s, u), rfl, ⟨(by decide : Rg (-4) 12 ((-4) : Int32)), p_s, (show (x0.toInt < 1 ∨ 12 < x0.toInt → ((-4) : Int32).toInt = -2 ∧ l_s.toInt = l_s.toInt) ∧ (1 ≤ x0.toInt → x0.toInt ≤ 12 → 12 < l_s.toInt + x0.toInt → ((-4) : Int32).toInt = -4 ∧ l_s.toInt = l_s.toInt) ∧ (1 ≤ x0.toInt → x0.toInt ≤ 12 → l_s.toInt + x0.toInt ≤ 12 → ((-4) : Int32).toInt = l_s.toInt + x0.toInt ∧ l_s.toInt = l_s.toInt + x0.toInt) from by have y90 : (1 : Int32).toInt ≤ x0.toInt := (lz_le _ _).mp (rg_nlt c48914); have y91 : x0.toInt ≤ (12 : Int32).toInt := (lz_le _ _).mp c48917; have y92 : r48919.toInt < x0.toInt := (lz_lt _ _).mp (rg_nle c48920); have y93 : Rg 1 12 x0 := g48918; have y94 : Rg 0 11 r48919 := g48924; have y95 : Rg 1 12 x0 := g48918; have y96 : Rg 0 12 l_s := p_s; have y97 : Rg 0 12 l_t := p_t; have y98 : Rg 0 12 l_i := p_i; have y99 : Rg 0 120 l_tp := p_tp; have y910 : Rg 0 40 l_n0 := p_n0; have y911 : Rg 0 40 l_n1 := p_n1; have y912 : Rg 0 40 l_n2 := p_n2; have y913 : Rg 0 40 l_n3 := p_n3; have y9c14 : ((-4) : Int32).toInt = -4 := (by decide); have y9c15 : (0 : Int32).toInt = 0 := (by decide); have y9c16 : (1 : Int32).toInt = 1 := (by decide); have y9c17 : (12 : Int32).toInt = 12 := (by decide); omega)⟩, by rw [ht]; exact hP, hD⟩, hS.F ht⟩) hS.2.2 dX11_points_30
    · have g48925 : Rg 13 2147483647 x0 := rg_ltr (by decide : Rg 12 12 (12 : Int32)) g48916 (rg_nle c48917) (by decide)
      refine lv_bipush (v := (-2)) hx hb dX11_points_11 (by decide) ?_
      subst hAe
      exact W.iret (v := (-2)) hx hb hr (fun t ht hW => ⟨⟨_, (l_s, u), rfl, ⟨(by decide : Rg (-4) 12 ((-2) : Int32)), p_s, (show (x0.toInt < 1 ∨ 12 < x0.toInt → ((-2) : Int32).toInt = -2 ∧ l_s.toInt = l_s.toInt) ∧ (1 ≤ x0.toInt → x0.toInt ≤ 12 → 12 < l_s.toInt + x0.toInt → ((-2) : Int32).toInt = -4 ∧ l_s.toInt = l_s.toInt) ∧ (1 ≤ x0.toInt → x0.toInt ≤ 12 → l_s.toInt + x0.toInt ≤ 12 → ((-2) : Int32).toInt = l_s.toInt + x0.toInt ∧ l_s.toInt = l_s.toInt + x0.toInt) from by have y90 : (1 : Int32).toInt ≤ x0.toInt := (lz_le _ _).mp (rg_nlt c48914); have y91 : (12 : Int32).toInt < x0.toInt := (lz_lt _ _).mp (rg_nle c48917); have y92 : Rg 13 2147483647 x0 := g48925; have y93 : Rg 13 2147483647 x0 := g48925; have y94 : Rg 0 12 l_s := p_s; have y95 : Rg 0 12 l_t := p_t; have y96 : Rg 0 12 l_i := p_i; have y97 : Rg 0 120 l_tp := p_tp; have y98 : Rg 0 40 l_n0 := p_n0; have y99 : Rg 0 40 l_n1 := p_n1; have y910 : Rg 0 40 l_n2 := p_n2; have y911 : Rg 0 40 l_n3 := p_n3; have y9c12 : ((-2) : Int32).toInt = -2 := (by decide); have y9c13 : (0 : Int32).toInt = 0 := (by decide); have y9c14 : (1 : Int32).toInt = 1 := (by decide); have y9c15 : (12 : Int32).toInt = 12 := (by decide); omega)⟩, by rw [ht]; exact hP, hD⟩, hS.F ht⟩) hS.2.2 dX11_points_13
set_option maxRecDepth 20000 in
theorem ggX11_wipe_X8_clear : GoodIn wsX11_wipe wsX8_clear := goodIn_r _ [6, 7, 24, 25] rfl (by decide +kernel)
set_option maxRecDepth 20000 in
theorem gX11_wipe_X8_clear : GoodIn wsX11_wipe (wsV RX11 265 RX8 yX8_clear wsX8_clear) := goodIn_app (goodIn_of _ (by decide +kernel)) ggX11_wipe_X8_clear
theorem dX11_wipe_0 : decode cX11_wipe 0 = .ok (.aload_n 0, 1) := by decide +kernel
theorem dX11_wipe_1 : decode cX11_wipe 1 = .ok (.getfield 60, 3) := by decide +kernel
theorem dX11_wipe_4 : decode cX11_wipe 4 = .ok (.invokevirtual 265, 3) := by decide +kernel
theorem dX11_wipe_7 : decode cX11_wipe 7 = .ok (.ireturn, 1) := by decide +kernel
set_option maxHeartbeats 4000000 in
set_option maxRecDepth 100000 in
theorem k_X11_wipe (l : Launch) (D : va_G) (cI cS : ClassId) (sz : Nat) (a : Nat → Nat) (na nc N : Nat) (tw : SU) (l_s l_t l_i l_kp l_iz l_z l_tp l_o0 l_o1 l_o2 l_o3 l_n0 l_n1 l_n2 l_n3 : Int32) (u0 : SU) (hL : TyX (mkL tw l_s l_t l_i l_kp l_iz l_z l_tp l_o0 l_o1 l_o2 l_o3 l_n0 l_n1 l_n2 l_n3)) (hN : N = 0 ∨ N = 24576) : Met l yX11_wipe wsX11_wipe ({ frames := 1, cells := 0, slots := 0, locals := 40 }) (PQ D cI cS (wX cI cS a na nc N (mkL tw l_s l_t l_i l_kp l_iz l_z l_tp l_o0 l_o1 l_o2 l_o3 l_n0 l_n1 l_n2 l_n3) u0) sz [.ref (a 0)]) (QF (S := Int32 × SU) D (wX cI cS a na nc N (mkL tw l_s l_t l_i l_kp l_iz l_z l_tp l_o0 l_o1 l_o2 l_o3 l_n0 l_n1 l_n2 l_n3) u0) (fun q => wX cI cS a na nc N (mkL tw l_s l_t l_i l_kp l_iz l_z q.1 l_o0 l_o1 l_o2 l_o3 l_n0 l_n1 l_n2 l_n3) q.2) sz (fun r q => Rg 0 120 r ∧ Rg 0 0 q.1 ∧ (r.toInt = l_tp.toInt ∧ q.1.toInt = 0))) 0 0 (va_A (wX cI cS a na nc N (mkL tw l_s l_t l_i l_kp l_iz l_z l_tp l_o0 l_o1 l_o2 l_o3 l_n0 l_n1 l_n2 l_n3) u0) sz) := by
  refine Met.ofW (cc := cX11_wipe) (maxL := 1) (ret := (some .int)) (by decide) rfl ?_
  intro p e s m args below meth c s₁ B hml hv
  obtain ⟨rfl, hsz, hP, hKK, hD0⟩ := hv
  have hx := B.exec
  have hb := B.bytes
  have hr := B.returns
  have hts := atoms_spec (ws := wsX11_wipe) B.pre
  have hown : s.vm.findClass RX11 = some m.cls := findClass_of_methodNamed B.named
  have hlocks := B.notSynchronized
  have hK := hKK.1
  have hin11 : ∀ w ∈ wsX110, w ∈ wsX11_wipe := by decide +kernel
  subst hsz
  have hD := hD0.self (sz := s.heap.size)
  obtain ⟨A, hAe⟩ : ∃ A, A = va_A (wX cI cS a na nc N (mkL tw l_s l_t l_i l_kp l_iz l_z l_tp l_o0 l_o1 l_o2 l_o3 l_n0 l_n1 l_n2 l_n3) u0) s.heap.size := ⟨_, rfl⟩
  rw [← hAe] at hD
  have hA : ∀ q : Nat, s.heap.size ≤ q → A q := fun q h => by rw [hAe]; exact Or.inr h
  have hS : va_S A s.heap s.heap [] := va_S.rf
  have hl := lv_entry ([.ref (a 0)]) (n := 1) (Nat.le_of_ble_eq_true rfl)
  rw [lg_entry_eq]
  generalize (lg_sl ([.ref (a 0)]) ++ List.replicate (1 - (lg_sl ([.ref (a 0)])).length) Slot.unset).toArray = ls at hl ⊢
  have hl : lv_has ls 1 [(0, .ref (a 0))] := hl
  obtain ⟨u, hu9⟩ : ∃ u : SU, u = u0 := ⟨_, rfl⟩
  rw [← hu9] at hP hD
  have p_s : Rg 0 12 l_s := hL.1
  have p_t : Rg 0 12 l_t := hL.2.1
  have p_i : Rg 0 12 l_i := hL.2.2.1
  have p_tp : Rg 0 120 l_tp := hL.2.2.2.1
  have p_n0 : Rg 0 40 l_n0 := hL.2.2.2.2.1
  have p_n1 : Rg 0 40 l_n1 := hL.2.2.2.2.2.1
  have p_n2 : Rg 0 40 l_n2 := hL.2.2.2.2.2.2.1
  have p_n3 : Rg 0 40 l_n3 := hL.2.2.2.2.2.2.2
  refine lv_aload_n hx hb dX11_wipe_0 rfl (lv_at hl 0 rfl) ?_
  refine va_get (D := D) (ci := 11) (v := .ref (a 21)) (C := RX11) (T := TX11) (N := 16) hx hb hts hin11 hown hK hP 0 rfl rfl 10 (by decide) (hts (.fieldLink RX11 60 "MissedPoints" "tape" "LMissedPoints$Tape;") (by decide +kernel)) (fun _ h9 => h9) rfl dX11_wipe_1 ?_
  refine wk_qi (S := Int32 × SU) (fun q => wX cI cS a na nc N (mkL tw l_s l_t l_i l_kp l_iz l_z q.1 l_o0 l_o1 l_o2 l_o3 l_n0 l_n1 l_n2 l_n3) q.2) (l_tp, u) (As := []) (rest := []) ⟨hx, hb, hml, hown, hts⟩ (k_X8_clear l D cI cS _ a na nc N tw l_s l_t l_i l_kp l_iz l_z l_tp l_o0 l_o1 l_o2 l_o3 l_n0 l_n1 l_n2 l_n3 u (show TyX (mkL tw l_s l_t l_i l_kp l_iz l_z l_tp l_o0 l_o1 l_o2 l_o3 l_n0 l_n1 l_n2 l_n3) from ⟨p_s, p_t, p_i, p_tp, p_n0, p_n1, p_n2, p_n3⟩) hN) hKK hP hD hS hA 21 (ci := 8) rfl rfl (cwV 0 hts gX11_wipe_X8_clear rfl rfl rfl (by decide +kernel) ⟨Nat.le_of_ble_eq_true rfl, Nat.le_of_ble_eq_true rfl⟩) rfl hl.1 rfl (Nat.le_of_ble_eq_true rfl) dX11_wipe_4 ⟨Nat.le_of_ble_eq_true rfl, Nat.le_of_ble_eq_true rfl⟩ (fun r48928 q9 H locs hr48928 hP hD hS => ?_)
  obtain ⟨r48929, u⟩ := q9
  have hr48928 : Rg 0 120 r48928 ∧ Rg 0 0 r48929 ∧ (r48928.toInt = l_tp.toInt ∧ r48929.toInt = 0) := hr48928
  have hP : va_P D cls (wX cI cS a na nc N (mkL tw l_s l_t l_i l_kp l_iz l_z r48929 l_o0 l_o1 l_o2 l_o3 l_n0 l_n1 l_n2 l_n3) u) H := hP
  have hD : va_D A (wX cI cS a na nc N (mkL tw l_s l_t l_i l_kp l_iz l_z r48929 l_o0 l_o1 l_o2 l_o3 l_n0 l_n1 l_n2 l_n3) u) := hD
  have kr48928_0 := hr48928.2.2
  subst hAe
  exact W.iret (v := r48928) hx hb hr (fun t ht hW => ⟨⟨_, (r48929, u), rfl, ⟨hr48928.1, hr48928.2.1, (show r48928.toInt = l_tp.toInt ∧ r48929.toInt = 0 from by have y90 : Rg 0 120 r48928 := hr48928.1; have y91 : Rg 0 12 l_s := p_s; have y92 : Rg 0 12 l_t := p_t; have y93 : Rg 0 12 l_i := p_i; have y94 : Rg 0 0 r48929 := hr48928.2.1; have y95 : Rg 0 40 l_n0 := p_n0; have y96 : Rg 0 40 l_n1 := p_n1; have y97 : Rg 0 40 l_n2 := p_n2; have y98 : Rg 0 40 l_n3 := p_n3; have y99 : Rg 0 120 r48928 := hr48928.1; have y9c10 : (0 : Int32).toInt = 0 := (by decide); have y9c11 : (1 : Int32).toInt = 1 := (by decide); omega)⟩, by rw [ht]; exact hP, hD⟩, hS.F ht⟩) hS.2.2 dX11_wipe_7
set_option maxRecDepth 20000 in
theorem ggX11_feed_X8_append : GoodIn wsX11_feed wsX8_append := goodIn_r _ [6, 7, 8, 25, 26] rfl (by decide +kernel)
set_option maxRecDepth 20000 in
theorem gX11_feed_X8_append : GoodIn wsX11_feed (wsV RX11 262 RX8 yX8_append wsX8_append) := goodIn_app (goodIn_of _ (by decide +kernel)) ggX11_feed_X8_append
theorem dX11_feed_0 : decode cX11_feed 0 = .ok (.iload_n 2, 1) := by decide +kernel
theorem dX11_feed_1 : decode cX11_feed 1 = .ok (.iconst 1, 1) := by decide +kernel
theorem dX11_feed_10 : decode cX11_feed 10 = .ok (.bipush (-2), 2) := by decide +kernel
theorem dX11_feed_12 : decode cX11_feed 12 = .ok (.ireturn, 1) := by decide +kernel
theorem dX11_feed_13 : decode cX11_feed 13 = .ok (.iload_n 2, 1) := by decide +kernel
theorem dX11_feed_14 : decode cX11_feed 14 = .ok (.bipush 120, 2) := by decide +kernel
theorem dX11_feed_16 : decode cX11_feed 16 = .ok (.aload_n 0, 1) := by decide +kernel
theorem dX11_feed_17 : decode cX11_feed 17 = .ok (.getfield 60, 3) := by decide +kernel
theorem dX11_feed_2 : decode cX11_feed 2 = .ok (.if_icmp .lt 8, 3) := by decide +kernel
theorem dX11_feed_20 : decode cX11_feed 20 = .ok (.getfield 140, 3) := by decide +kernel
theorem dX11_feed_23 : decode cX11_feed 23 = .ok (.isub, 1) := by decide +kernel
theorem dX11_feed_24 : decode cX11_feed 24 = .ok (.if_icmp .le 6, 3) := by decide +kernel
theorem dX11_feed_27 : decode cX11_feed 27 = .ok (.bipush (-4), 2) := by decide +kernel
theorem dX11_feed_29 : decode cX11_feed 29 = .ok (.ireturn, 1) := by decide +kernel
theorem dX11_feed_30 : decode cX11_feed 30 = .ok (.iload_n 2, 1) := by decide +kernel
theorem dX11_feed_31 : decode cX11_feed 31 = .ok (.iconst 1, 1) := by decide +kernel
theorem dX11_feed_32 : decode cX11_feed 32 = .ok (.isub, 1) := by decide +kernel
theorem dX11_feed_33 : decode cX11_feed 33 = .ok (.istore_n 3, 1) := by decide +kernel
theorem dX11_feed_34 : decode cX11_feed 34 = .ok (.iload_n 3, 1) := by decide +kernel
theorem dX11_feed_35 : decode cX11_feed 35 = .ok (.ifCond .lt 26, 3) := by decide +kernel
theorem dX11_feed_38 : decode cX11_feed 38 = .ok (.aload_n 0, 1) := by decide +kernel
theorem dX11_feed_39 : decode cX11_feed 39 = .ok (.getfield 60, 3) := by decide +kernel
theorem dX11_feed_42 : decode cX11_feed 42 = .ok (.iload_n 1, 1) := by decide +kernel
theorem dX11_feed_43 : decode cX11_feed 43 = .ok (.bipush 8, 2) := by decide +kernel
theorem dX11_feed_45 : decode cX11_feed 45 = .ok (.iload_n 3, 1) := by decide +kernel
theorem dX11_feed_46 : decode cX11_feed 46 = .ok (.imul, 1) := by decide +kernel
theorem dX11_feed_47 : decode cX11_feed 47 = .ok (.iushr, 1) := by decide +kernel
theorem dX11_feed_48 : decode cX11_feed 48 = .ok (.sipush 255, 3) := by decide +kernel
theorem dX11_feed_5 : decode cX11_feed 5 = .ok (.iload_n 2, 1) := by decide +kernel
theorem dX11_feed_51 : decode cX11_feed 51 = .ok (.iand, 1) := by decide +kernel
theorem dX11_feed_52 : decode cX11_feed 52 = .ok (.invokevirtual 262, 3) := by decide +kernel
theorem dX11_feed_55 : decode cX11_feed 55 = .ok (.iinc 3 (-1), 3) := by decide +kernel
theorem dX11_feed_58 : decode cX11_feed 58 = .ok (.goto (-24), 3) := by decide +kernel
theorem dX11_feed_6 : decode cX11_feed 6 = .ok (.iconst 4, 1) := by decide +kernel
theorem dX11_feed_61 : decode cX11_feed 61 = .ok (.aload_n 0, 1) := by decide +kernel
theorem dX11_feed_62 : decode cX11_feed 62 = .ok (.getfield 60, 3) := by decide +kernel
theorem dX11_feed_65 : decode cX11_feed 65 = .ok (.getfield 140, 3) := by decide +kernel
theorem dX11_feed_68 : decode cX11_feed 68 = .ok (.ireturn, 1) := by decide +kernel
theorem dX11_feed_7 : decode cX11_feed 7 = .ok (.if_icmp .le 6, 3) := by decide +kernel
set_option maxHeartbeats 4000000 in
set_option maxRecDepth 100000 in
theorem k_X11_feed (l : Launch) (D : va_G) (cI cS : ClassId) (sz : Nat) (a : Nat → Nat) (na nc N : Nat) (tw : SU) (l_s l_t l_i l_kp l_iz l_z l_tp l_o0 l_o1 l_o2 l_o3 l_n0 l_n1 l_n2 l_n3 : Int32) (u0 : SU) (hL : TyX (mkL tw l_s l_t l_i l_kp l_iz l_z l_tp l_o0 l_o1 l_o2 l_o3 l_n0 l_n1 l_n2 l_n3)) (hN : N = 0 ∨ N = 24576) (x0 x1 : Int32) : Met l yX11_feed wsX11_feed ({ frames := 1, cells := 0, slots := 0, locals := 40 }) (PQ D cI cS (wX cI cS a na nc N (mkL tw l_s l_t l_i l_kp l_iz l_z l_tp l_o0 l_o1 l_o2 l_o3 l_n0 l_n1 l_n2 l_n3) u0) sz [.ref (a 0), .int x0, .int x1]) (QF (S := Int32 × SU) D (wX cI cS a na nc N (mkL tw l_s l_t l_i l_kp l_iz l_z l_tp l_o0 l_o1 l_o2 l_o3 l_n0 l_n1 l_n2 l_n3) u0) (fun q => wX cI cS a na nc N (mkL tw l_s l_t l_i l_kp l_iz l_z q.1 l_o0 l_o1 l_o2 l_o3 l_n0 l_n1 l_n2 l_n3) q.2) sz (fun r q => Rg (-4) 120 r ∧ Rg 0 120 q.1 ∧ ((x1.toInt < 1 ∨ 4 < x1.toInt → r.toInt = -2 ∧ q.1.toInt = l_tp.toInt) ∧ (1 ≤ x1.toInt → x1.toInt ≤ 4 → 120 < l_tp.toInt + x1.toInt → r.toInt = -4 ∧ q.1.toInt = l_tp.toInt) ∧ (1 ≤ x1.toInt → x1.toInt ≤ 4 → l_tp.toInt + x1.toInt ≤ 120 → r.toInt = l_tp.toInt + x1.toInt ∧ q.1.toInt = l_tp.toInt + x1.toInt)))) 0 0 (va_A (wX cI cS a na nc N (mkL tw l_s l_t l_i l_kp l_iz l_z l_tp l_o0 l_o1 l_o2 l_o3 l_n0 l_n1 l_n2 l_n3) u0) sz) := by
  refine Met.ofW (cc := cX11_feed) (maxL := 4) (ret := (some .int)) (by decide) rfl ?_
  intro p e s m args below meth c s₁ B hml hv
  obtain ⟨rfl, hsz, hP, hKK, hD0⟩ := hv
  have hx := B.exec
  have hb := B.bytes
  have hr := B.returns
  have hts := atoms_spec (ws := wsX11_feed) B.pre
  have hown : s.vm.findClass RX11 = some m.cls := findClass_of_methodNamed B.named
  have hlocks := B.notSynchronized
  have hK := hKK.1
  have hin8 : ∀ w ∈ wsX80, w ∈ wsX11_feed := by decide +kernel
  have hin11 : ∀ w ∈ wsX110, w ∈ wsX11_feed := by decide +kernel
  subst hsz
  have hD := hD0.self (sz := s.heap.size)
  obtain ⟨A, hAe⟩ : ∃ A, A = va_A (wX cI cS a na nc N (mkL tw l_s l_t l_i l_kp l_iz l_z l_tp l_o0 l_o1 l_o2 l_o3 l_n0 l_n1 l_n2 l_n3) u0) s.heap.size := ⟨_, rfl⟩
  rw [← hAe] at hD
  have hA : ∀ q : Nat, s.heap.size ≤ q → A q := fun q h => by rw [hAe]; exact Or.inr h
  have hS : va_S A s.heap s.heap [] := va_S.rf
  have hl := lv_entry ([.ref (a 0), .int x0, .int x1]) (n := 4) (Nat.le_of_ble_eq_true rfl)
  rw [lg_entry_eq]
  generalize (lg_sl ([.ref (a 0), .int x0, .int x1]) ++ List.replicate (4 - (lg_sl ([.ref (a 0), .int x0, .int x1])).length) Slot.unset).toArray = ls at hl ⊢
  have hl : lv_has ls 4 [(0, .ref (a 0)), (1, .int x0), (2, .int x1)] := hl
  obtain ⟨u, hu9⟩ : ∃ u : SU, u = u0 := ⟨_, rfl⟩
  rw [← hu9] at hP hD
  have p_s : Rg 0 12 l_s := hL.1
  have p_t : Rg 0 12 l_t := hL.2.1
  have p_i : Rg 0 12 l_i := hL.2.2.1
  have p_tp : Rg 0 120 l_tp := hL.2.2.2.1
  have p_n0 : Rg 0 40 l_n0 := hL.2.2.2.2.1
  have p_n1 : Rg 0 40 l_n1 := hL.2.2.2.2.2.1
  have p_n2 : Rg 0 40 l_n2 := hL.2.2.2.2.2.2.1
  have p_n3 : Rg 0 40 l_n3 := hL.2.2.2.2.2.2.2
  have lp34 : ∀ (n34 : Nat) (y34_l3 : Int32) (y34_ktp : Int32) (u : SU) (H : Heap) (locs : List Loc) (ls : Array Slot), Rg (-1) 3 y34_l3 → Rg 0 120 y34_ktp → (y34_ktp.toInt + y34_l3.toInt + 1 = l_tp.toInt + x1.toInt ∧ l_tp.toInt + x1.toInt ≤ 120 ∧ 1 ≤ x1.toInt ∧ x1.toInt ≤ 4) → va_P D cls (wX cI cS a na nc N (mkL tw l_s l_t l_i l_kp l_iz l_z y34_ktp l_o0 l_o1 l_o2 l_o3 l_n0 l_n1 l_n2 l_n3) u) H → va_D A (wX cI cS a na nc N (mkL tw l_s l_t l_i l_kp l_iz l_z y34_ktp l_o0 l_o1 l_o2 l_o3 l_n0 l_n1 l_n2 l_n3) u) → va_S A s.heap H locs → lv_has ls 4 [(0, .ref (a 0)), (1, .int x0), (3, .int y34_l3)] → y34_l3.toInt - (-1) < (n34 : Int) → W p l e (headSpec wsX11_feed ({ frames := 1, cells := 0, slots := 0, locals := 40 })).room s m ([.ref (a 0), .int x0, .int x1]).toArray below meth c H locs 0 0 (MQ below (QF (S := Int32 × SU) D (wX cI cS a na nc N (mkL tw l_s l_t l_i l_kp l_iz l_z l_tp l_o0 l_o1 l_o2 l_o3 l_n0 l_n1 l_n2 l_n3) u0) (fun q => wX cI cS a na nc N (mkL tw l_s l_t l_i l_kp l_iz l_z q.1 l_o0 l_o1 l_o2 l_o3 l_n0 l_n1 l_n2 l_n3) q.2) s.heap.size (fun r q => Rg (-4) 120 r ∧ Rg 0 120 q.1 ∧ ((x1.toInt < 1 ∨ 4 < x1.toInt → r.toInt = -2 ∧ q.1.toInt = l_tp.toInt) ∧ (1 ≤ x1.toInt → x1.toInt ≤ 4 → 120 < l_tp.toInt + x1.toInt → r.toInt = -4 ∧ q.1.toInt = l_tp.toInt) ∧ (1 ≤ x1.toInt → x1.toInt ≤ 4 → l_tp.toInt + x1.toInt ≤ 120 → r.toInt = l_tp.toInt + x1.toInt ∧ q.1.toInt = l_tp.toInt + x1.toInt)))) ([.ref (a 0), .int x0, .int x1]).toArray s 0 0 (va_A (wX cI cS a na nc N (mkL tw l_s l_t l_i l_kp l_iz l_z l_tp l_o0 l_o1 l_o2 l_o3 l_n0 l_n1 l_n2 l_n3) u0) s.heap.size)) (F0 m 34 ls []) := by
    intro n34
    induction n34 with
    | zero =>
      intro y34_l3 y34_ktp u H locs ls g34_l3 g34_ktp x34_0 hP hD hS hl hm34
      exact absurd rfl (me_y g34_l3 hm34)
    | succ n34 ih34 =>
      intro y34_l3 y34_ktp u H locs ls g34_l3 g34_ktp x34_0 hP hD hS hl hm34
      refine lv_iload_n hx hb dX11_feed_34 rfl (lv_at hl 2 rfl) ?_
      refine lv_if_lt (tgt := 61) hx hb dX11_feed_35 (by decide) (fun c48968 => ?_) (fun c48968 => ?_)
      · have g48969 : Rg (-1) (-1) y34_l3 := rg_ltl g34_l3 (by decide : Rg 0 0 (0 : Int32)) c48968 (by decide)
        refine lv_aload_n hx hb dX11_feed_61 rfl (lv_at hl 0 rfl) ?_
        refine va_get (D := D) (ci := 11) (v := .ref (a 21)) (C := RX11) (T := TX11) (N := 16) hx hb hts hin11 hown hK hP 0 rfl rfl 10 (by decide) (hts (.fieldLink RX11 60 "MissedPoints" "tape" "LMissedPoints$Tape;") (by decide +kernel)) (fun _ h9 => h9) rfl dX11_feed_62 ?_
        refine va_getN (D := D) (ci := 8) (v := .int y34_ktp) (C := RX8) (T := TX8) (N := 2) hx hb hts hin8 hown hK hP 21 rfl rfl 1 (by decide) (va_Nw.use rfl hKK.2.1) (fun _ h9 => h9) rfl dX11_feed_65 ?_
        subst hAe
        exact W.iret (v := y34_ktp) hx hb hr (fun t ht hW => ⟨⟨_, (y34_ktp, u), rfl, ⟨(show Rg (-4) 120 y34_ktp from rg_w g34_ktp (by decide) (by decide)), g34_ktp, (show (x1.toInt < 1 ∨ 4 < x1.toInt → y34_ktp.toInt = -2 ∧ y34_ktp.toInt = l_tp.toInt) ∧ (1 ≤ x1.toInt → x1.toInt ≤ 4 → 120 < l_tp.toInt + x1.toInt → y34_ktp.toInt = -4 ∧ y34_ktp.toInt = l_tp.toInt) ∧ (1 ≤ x1.toInt → x1.toInt ≤ 4 → l_tp.toInt + x1.toInt ≤ 120 → y34_ktp.toInt = l_tp.toInt + x1.toInt ∧ y34_ktp.toInt = l_tp.toInt + x1.toInt) from by have y90 : y34_l3.toInt < (0 : Int32).toInt := (lz_lt _ _).mp c48968; have y91 : Rg (-1) (-1) y34_l3 := g48969; have y92 : Rg (-1) (-1) y34_l3 := g48969; have y93 : Rg 0 120 y34_ktp := g34_ktp; have y94 : Rg 0 12 l_s := p_s; have y95 : Rg 0 12 l_t := p_t; have y96 : Rg 0 12 l_i := p_i; have y97 : Rg 0 120 y34_ktp := g34_ktp; have y98 : Rg 0 40 l_n0 := p_n0; have y99 : Rg 0 40 l_n1 := p_n1; have y910 : Rg 0 40 l_n2 := p_n2; have y911 : Rg 0 40 l_n3 := p_n3; have y912 : Rg 0 120 y34_ktp := g34_ktp; have y9c13 : (0 : Int32).toInt = 0 := (by decide); have y9c14 : (1 : Int32).toInt = 1 := (by decide); omega)⟩, by rw [ht]; exact hP, hD⟩, hS.F ht⟩) hS.2.2 dX11_feed_68
      · have g48970 : Rg 0 3 y34_l3 := rg_ler (by decide : Rg 0 0 (0 : Int32)) g34_l3 (rg_nlt c48968) (by decide)
        refine lv_aload_n hx hb dX11_feed_38 rfl (lv_at hl 0 rfl) ?_
        refine va_get (D := D) (ci := 11) (v := .ref (a 21)) (C := RX11) (T := TX11) (N := 16) hx hb hts hin11 hown hK hP 0 rfl rfl 10 (by decide) (hts (.fieldLink RX11 60 "MissedPoints" "tape" "LMissedPoints$Tape;") (by decide +kernel)) (fun _ h9 => h9) rfl dX11_feed_39 ?_
        refine lv_iload_n hx hb dX11_feed_42 rfl (lv_at hl 1 rfl) ?_
        refine lv_bipush (v := 8) hx hb dX11_feed_43 (by decide) ?_
        refine lv_iload_n hx hb dX11_feed_45 rfl (lv_at hl 2 rfl) ?_
        refine wk_imul (f := 24) hx hb dX11_feed_46 (by decide : Rg 0 8 (8 : Int32)) g48970 (by decide) (fun r48971 hr48971 er48971 qr48971 => ?_)
        refine lv_iushr hx hb dX11_feed_47 rfl ?_
        refine wk_any (fun r48972 => ?_)
        refine lv_sipush (v := 255) hx hb dX11_feed_48 (by decide) ?_
        refine wk_iandr hx hb dX11_feed_51 (by decide : Rg 255 255 (255 : Int32)) (by decide) (fun r48973 hr48973 qr48973 => ?_)
        refine wk_qv (S := Int32 × SU) (fun q => wX cI cS a na nc N (mkL tw l_s l_t l_i l_kp l_iz l_z q.1 l_o0 l_o1 l_o2 l_o3 l_n0 l_n1 l_n2 l_n3) q.2) (y34_ktp, u) (As := [.int r48973]) (rest := []) ⟨hx, hb, hml, hown, hts⟩ (k_X8_append l D cI cS _ a na nc N tw l_s l_t l_i l_kp l_iz l_z y34_ktp l_o0 l_o1 l_o2 l_o3 l_n0 l_n1 l_n2 l_n3 u (show TyX (mkL tw l_s l_t l_i l_kp l_iz l_z y34_ktp l_o0 l_o1 l_o2 l_o3 l_n0 l_n1 l_n2 l_n3) from ⟨p_s, p_t, p_i, g34_ktp, p_n0, p_n1, p_n2, p_n3⟩) hN r48973) hKK hP hD hS hA 21 (ci := 8) rfl rfl (cwV 1 hts gX11_feed_X8_append rfl rfl rfl (by decide +kernel) ⟨Nat.le_of_ble_eq_true rfl, Nat.le_of_ble_eq_true rfl⟩) rfl hl.1 rfl (Nat.le_of_ble_eq_true rfl) dX11_feed_52 ⟨Nat.le_of_ble_eq_true rfl, Nat.le_of_ble_eq_true rfl⟩ (fun q9 H locs hr48974 hP hD hS => ?_)
        obtain ⟨r48975, u⟩ := q9
        have hr48974 : Rg 1 120 r48975 ∧ ((y34_ktp.toInt < 120 → r48975.toInt = y34_ktp.toInt + 1)) := hr48974
        have hP : va_P D cls (wX cI cS a na nc N (mkL tw l_s l_t l_i l_kp l_iz l_z r48975 l_o0 l_o1 l_o2 l_o3 l_n0 l_n1 l_n2 l_n3) u) H := hP
        have hD : va_D A (wX cI cS a na nc N (mkL tw l_s l_t l_i l_kp l_iz l_z r48975 l_o0 l_o1 l_o2 l_o3 l_n0 l_n1 l_n2 l_n3) u) := hD
        have kr48974_0 := hr48974.2
        refine wk_iinc (lv' := fun r => [(3, .int r), (0, .ref (a 0)), (1, .int x0)]) (e1 := (-1)) (f := 2) hx hb dX11_feed_55 hl (k := 2) rfl (by decide) g48970 (by decide) (fun _ => rfl) (fun r48976 ls hr48976 er48976 hl => ?_)
        refine lv_goto (tgt := 34) hx hb dX11_feed_58 (by decide) ?_
        exact ih34 r48976 r48975 u _ _ ls (show Rg (-1) 3 r48976 from rg_w hr48976 (by decide) (by decide)) (show Rg 0 120 r48975 from rg_w hr48974.1 (by decide) (by decide)) (show (r48975.toInt + r48976.toInt + 1 = l_tp.toInt + x1.toInt ∧ l_tp.toInt + x1.toInt ≤ 120 ∧ 1 ≤ x1.toInt ∧ x1.toInt ≤ 4) from by have y90 : (0 : Int32).toInt ≤ y34_l3.toInt := (lz_le _ _).mp (rg_nlt c48968); have y91 : Rg 0 3 y34_l3 := g48970; have y92 : Rg (-1) 2 r48976 := hr48976; have y93 : Rg 0 12 l_s := p_s; have y94 : Rg 0 12 l_t := p_t; have y95 : Rg 0 12 l_i := p_i; have y96 : Rg 1 120 r48975 := hr48974.1; have y97 : Rg 0 40 l_n0 := p_n0; have y98 : Rg 0 40 l_n1 := p_n1; have y99 : Rg 0 40 l_n2 := p_n2; have y910 : Rg 0 40 l_n3 := p_n3; have y9c11 : (0 : Int32).toInt = 0 := (by decide); have y9c12 : (1 : Int32).toInt = 1 := (by decide); omega) hP hD hS (lv_sub (l' := [(0, .ref (a 0)), (1, .int x0), (3, .int r48976)]) hl [1, 2, 0] rfl) (me_dn hm34 er48976 (by decide))
  refine lv_iload_n hx hb dX11_feed_0 rfl (lv_at hl 2 rfl) ?_
  refine lv_iconst (v := 1) hx hb dX11_feed_1 (by decide) ?_
  refine lv_icmp_lt (tgt := 10) hx hb dX11_feed_2 (by decide) (fun c48977 => ?_) (fun c48977 => ?_)
  · have g48978 : Rg (-2147483648) 0 x1 := rg_ltl (rg_any x1) (by decide : Rg 1 1 (1 : Int32)) c48977 (by decide)
    refine lv_bipush (v := (-2)) hx hb dX11_feed_10 (by decide) ?_
    subst hAe
    exact W.iret (v := (-2)) hx hb hr (fun t ht hW => ⟨⟨_, (l_tp, u), rfl, ⟨(by decide : Rg (-4) 120 ((-2) : Int32)), p_tp, (show (x1.toInt < 1 ∨ 4 < x1.toInt → ((-2) : Int32).toInt = -2 ∧ l_tp.toInt = l_tp.toInt) ∧ (1 ≤ x1.toInt → x1.toInt ≤ 4 → 120 < l_tp.toInt + x1.toInt → ((-2) : Int32).toInt = -4 ∧ l_tp.toInt = l_tp.toInt) ∧ (1 ≤ x1.toInt → x1.toInt ≤ 4 → l_tp.toInt + x1.toInt ≤ 120 → ((-2) : Int32).toInt = l_tp.toInt + x1.toInt ∧ l_tp.toInt = l_tp.toInt + x1.toInt) from by have y90 : x1.toInt < (1 : Int32).toInt := (lz_lt _ _).mp c48977; have y91 : Rg (-2147483648) 0 x1 := g48978; have y92 : Rg (-2147483648) 0 x1 := g48978; have y93 : Rg 0 12 l_s := p_s; have y94 : Rg 0 12 l_t := p_t; have y95 : Rg 0 12 l_i := p_i; have y96 : Rg 0 120 l_tp := p_tp; have y97 : Rg 0 40 l_n0 := p_n0; have y98 : Rg 0 40 l_n1 := p_n1; have y99 : Rg 0 40 l_n2 := p_n2; have y910 : Rg 0 40 l_n3 := p_n3; have y9c11 : ((-2) : Int32).toInt = -2 := (by decide); have y9c12 : (0 : Int32).toInt = 0 := (by decide); have y9c13 : (1 : Int32).toInt = 1 := (by decide); omega)⟩, by rw [ht]; exact hP, hD⟩, hS.F ht⟩) hS.2.2 dX11_feed_12
  · have g48979 : Rg 1 2147483647 x1 := rg_ler (by decide : Rg 1 1 (1 : Int32)) (rg_any x1) (rg_nlt c48977) (by decide)
    refine lv_iload_n hx hb dX11_feed_5 rfl (lv_at hl 2 rfl) ?_
    refine lv_iconst (v := 4) hx hb dX11_feed_6 (by decide) ?_
    refine lv_icmp_le (tgt := 13) hx hb dX11_feed_7 (by decide) (fun c48980 => ?_) (fun c48980 => ?_)
    · have g48981 : Rg 1 4 x1 := rg_lel g48979 (by decide : Rg 4 4 (4 : Int32)) c48980 (by decide)
      refine lv_iload_n hx hb dX11_feed_13 rfl (lv_at hl 2 rfl) ?_
      refine lv_bipush (v := 120) hx hb dX11_feed_14 (by decide) ?_
      refine lv_aload_n hx hb dX11_feed_16 rfl (lv_at hl 0 rfl) ?_
      refine va_get (D := D) (ci := 11) (v := .ref (a 21)) (C := RX11) (T := TX11) (N := 16) hx hb hts hin11 hown hK hP 0 rfl rfl 10 (by decide) (hts (.fieldLink RX11 60 "MissedPoints" "tape" "LMissedPoints$Tape;") (by decide +kernel)) (fun _ h9 => h9) rfl dX11_feed_17 ?_
      refine va_getN (D := D) (ci := 8) (v := .int l_tp) (C := RX8) (T := TX8) (N := 2) hx hb hts hin8 hown hK hP 21 rfl rfl 1 (by decide) (va_Nw.use rfl hKK.2.1) (fun _ h9 => h9) rfl dX11_feed_20 ?_
      refine wk_isub (e1 := 0) (f := 120) hx hb dX11_feed_23 (by decide : Rg 120 120 (120 : Int32)) p_tp (by decide) (fun r48982 hr48982 er48982 qr48982 => ?_)
      refine lv_icmp_le (tgt := 30) hx hb dX11_feed_24 (by decide) (fun c48983 => ?_) (fun c48983 => ?_)
      · have g48984 : Rg 1 120 r48982 := rg_ler g48981 hr48982 c48983 (by decide)
        refine lv_iload_n hx hb dX11_feed_30 rfl (lv_at hl 2 rfl) ?_
        refine lv_iconst (v := 1) hx hb dX11_feed_31 (by decide) ?_
        refine wk_isub (e1 := 0) (f := 3) hx hb dX11_feed_32 g48981 (by decide : Rg 1 1 (1 : Int32)) (by decide) (fun r48985 hr48985 er48985 qr48985 => ?_)
        refine lv_istore_n (lv' := [(3, .int r48985), (0, .ref (a 0)), (1, .int x0), (2, .int x1)]) hx hb dX11_feed_33 rfl hl (by decide) rfl (fun ls hl => ?_)
        exact lp34 5 r48985 l_tp u _ _ ls (show Rg (-1) 3 r48985 from rg_w hr48985 (by decide) (by decide)) p_tp (show (l_tp.toInt + r48985.toInt + 1 = l_tp.toInt + x1.toInt ∧ l_tp.toInt + x1.toInt ≤ 120 ∧ 1 ≤ x1.toInt ∧ x1.toInt ≤ 4) from by have y90 : (1 : Int32).toInt ≤ x1.toInt := (lz_le _ _).mp (rg_nlt c48977); have y91 : x1.toInt ≤ (4 : Int32).toInt := (lz_le _ _).mp c48980; have y92 : x1.toInt ≤ r48982.toInt := (lz_le _ _).mp c48983; have y93 : Rg 1 4 x1 := g48981; have y94 : Rg 1 120 r48982 := g48984; have y95 : Rg 1 4 x1 := g48981; have y96 : Rg 0 3 r48985 := hr48985; have y97 : Rg 0 12 l_s := p_s; have y98 : Rg 0 12 l_t := p_t; have y99 : Rg 0 12 l_i := p_i; have y910 : Rg 0 120 l_tp := p_tp; have y911 : Rg 0 40 l_n0 := p_n0; have y912 : Rg 0 40 l_n1 := p_n1; have y913 : Rg 0 40 l_n2 := p_n2; have y914 : Rg 0 40 l_n3 := p_n3; have y9c15 : (0 : Int32).toInt = 0 := (by decide); have y9c16 : (1 : Int32).toInt = 1 := (by decide); have y9c17 : (4 : Int32).toInt = 4 := (by decide); have y9c18 : (120 : Int32).toInt = 120 := (by decide); omega) hP hD hS (lv_sub (l' := [(0, .ref (a 0)), (1, .int x0), (3, .int r48985)]) hl [1, 2, 0] rfl) (me_j (show Rg (-1) 3 r48985 from rg_w hr48985 (by decide) (by decide)) (by decide))
      · have g48986 : Rg 0 3 r48982 := rg_ltl hr48982 g48981 (rg_nle c48983) (by decide)
        refine lv_bipush (v := (-4)) hx hb dX11_feed_27 (by decide) ?_
        subst hAe
        exact W.iret (v := (-4)) hx hb hr (fun t ht hW => ⟨⟨_, (l_tp, u), rfl, ⟨(by decide : Rg (-4) 120 ((-4) : Int32)), p_tp, (show (x1.toInt < 1 ∨ 4 < x1.toInt → ((-4) : Int32).toInt = -2 ∧ l_tp.toInt = l_tp.toInt) ∧ (1 ≤ x1.toInt → x1.toInt ≤ 4 → 120 < l_tp.toInt + x1.toInt → ((-4) : Int32).toInt = -4 ∧ l_tp.toInt = l_tp.toInt) ∧ (1 ≤ x1.toInt → x1.toInt ≤ 4 → l_tp.toInt + x1.toInt ≤ 120 → ((-4) : Int32).toInt = l_tp.toInt + x1.toInt ∧ l_tp.toInt = l_tp.toInt + x1.toInt) from by have y90 : (1 : Int32).toInt ≤ x1.toInt := (lz_le _ _).mp (rg_nlt c48977); have y91 : x1.toInt ≤ (4 : Int32).toInt := (lz_le _ _).mp c48980; have y92 : r48982.toInt < x1.toInt := (lz_lt _ _).mp (rg_nle c48983); have y93 : Rg 1 4 x1 := g48981; have y94 : Rg 0 3 r48982 := g48986; have y95 : Rg 1 4 x1 := g48981; have y96 : Rg 0 12 l_s := p_s; have y97 : Rg 0 12 l_t := p_t; have y98 : Rg 0 12 l_i := p_i; have y99 : Rg 0 120 l_tp := p_tp; have y910 : Rg 0 40 l_n0 := p_n0; have y911 : Rg 0 40 l_n1 := p_n1; have y912 : Rg 0 40 l_n2 := p_n2; have y913 : Rg 0 40 l_n3 := p_n3; have y9c14 : ((-4) : Int32).toInt = -4 := (by decide); have y9c15 : (0 : Int32).toInt = 0 := (by decide); have y9c16 : (1 : Int32).toInt = 1 := (by decide); have y9c17 : (4 : Int32).toInt = 4 := (by decide); have y9c18 : (120 : Int32).toInt = 120 := (by decide); omega)⟩, by rw [ht]; exact hP, hD⟩, hS.F ht⟩) hS.2.2 dX11_feed_29
    · have g48987 : Rg 5 2147483647 x1 := rg_ltr (by decide : Rg 4 4 (4 : Int32)) g48979 (rg_nle c48980) (by decide)
      refine lv_bipush (v := (-2)) hx hb dX11_feed_10 (by decide) ?_
      subst hAe
      exact W.iret (v := (-2)) hx hb hr (fun t ht hW => ⟨⟨_, (l_tp, u), rfl, ⟨(by decide : Rg (-4) 120 ((-2) : Int32)), p_tp, (show (x1.toInt < 1 ∨ 4 < x1.toInt → ((-2) : Int32).toInt = -2 ∧ l_tp.toInt = l_tp.toInt) ∧ (1 ≤ x1.toInt → x1.toInt ≤ 4 → 120 < l_tp.toInt + x1.toInt → ((-2) : Int32).toInt = -4 ∧ l_tp.toInt = l_tp.toInt) ∧ (1 ≤ x1.toInt → x1.toInt ≤ 4 → l_tp.toInt + x1.toInt ≤ 120 → ((-2) : Int32).toInt = l_tp.toInt + x1.toInt ∧ l_tp.toInt = l_tp.toInt + x1.toInt) from by have y90 : (1 : Int32).toInt ≤ x1.toInt := (lz_le _ _).mp (rg_nlt c48977); have y91 : (4 : Int32).toInt < x1.toInt := (lz_lt _ _).mp (rg_nle c48980); have y92 : Rg 5 2147483647 x1 := g48987; have y93 : Rg 5 2147483647 x1 := g48987; have y94 : Rg 0 12 l_s := p_s; have y95 : Rg 0 12 l_t := p_t; have y96 : Rg 0 12 l_i := p_i; have y97 : Rg 0 120 l_tp := p_tp; have y98 : Rg 0 40 l_n0 := p_n0; have y99 : Rg 0 40 l_n1 := p_n1; have y910 : Rg 0 40 l_n2 := p_n2; have y911 : Rg 0 40 l_n3 := p_n3; have y9c12 : ((-2) : Int32).toInt = -2 := (by decide); have y9c13 : (0 : Int32).toInt = 0 := (by decide); have y9c14 : (1 : Int32).toInt = 1 := (by decide); have y9c15 : (4 : Int32).toInt = 4 := (by decide); omega)⟩, by rw [ht]; exact hP, hD⟩, hS.F ht⟩) hS.2.2 dX11_feed_12
set_option maxRecDepth 20000 in
theorem ggX11_text_X2_joinAll : GoodIn wsX11_text wsX2_joinAll := goodIn_r _ [75, 48, 76, 77, 78, 46, 79, 80, 81, 82, 83, 84, 85, 44, 45, 47, 86, 87, 88, 89, 90, 117, 118, 119] rfl (by decide +kernel)
set_option maxRecDepth 20000 in
theorem gX11_text_X2_joinAll : GoodIn wsX11_text (wsV RX11 275 RX2 yX2_joinAll wsX2_joinAll) := goodIn_app (goodIn_of _ (by decide +kernel)) ggX11_text_X2_joinAll
set_option maxRecDepth 20000 in
theorem ggX11_text_X5_readAll : GoodIn wsX11_text wsX5_readAll := goodIn_r _ [8, 9, 10, 11, 12, 13, 14, 15, 7, 16, 17, 18, 19, 20, 21, 22, 23, 24, 25, 26, 27, 28, 29, 30, 31, 32, 33, 34, 35, 36, 37, 38, 39, 40, 41, 42, 43, 44, 45, 46, 47, 48, 49, 50, 51, 52, 53, 54, 55, 56, 57, 58, 59, 60, 61, 62, 63, 64, 65, 66, 67, 107, 108, 109, 110, 111, 112, 113, 114, 115, 116, 117, 118, 119] rfl (by decide +kernel)
set_option maxRecDepth 20000 in
theorem gX11_text_X5_readAll : GoodIn wsX11_text (wsV RX11 268 RX5 yX5_readAll wsX5_readAll) := goodIn_app (goodIn_of _ (by decide +kernel)) ggX11_text_X5_readAll
set_option maxRecDepth 20000 in
theorem ggX11_text_X8_clear : GoodIn wsX11_text wsX8_clear := goodIn_r _ [71, 25, 115, 116] rfl (by decide +kernel)
set_option maxRecDepth 20000 in
theorem gX11_text_X8_clear : GoodIn wsX11_text (wsV RX11 265 RX8 yX8_clear wsX8_clear) := goodIn_app (goodIn_of _ (by decide +kernel)) ggX11_text_X8_clear
theorem dX11_text_0 : decode cX11_text 0 = .ok (.aload_n 0, 1) := by decide +kernel
theorem dX11_text_1 : decode cX11_text 1 = .ok (.getfield 69, 3) := by decide +kernel
theorem dX11_text_12 : decode cX11_text 12 = .ok (.invokevirtual 265, 3) := by decide +kernel
theorem dX11_text_15 : decode cX11_text 15 = .ok (.pop, 1) := by decide +kernel
theorem dX11_text_16 : decode cX11_text 16 = .ok (.iload_n 1, 1) := by decide +kernel
theorem dX11_text_17 : decode cX11_text 17 = .ok (.ifCond .lt 10, 3) := by decide +kernel
theorem dX11_text_20 : decode cX11_text 20 = .ok (.bipush (-100), 2) := by decide +kernel
theorem dX11_text_22 : decode cX11_text 22 = .ok (.iload_n 1, 1) := by decide +kernel
theorem dX11_text_23 : decode cX11_text 23 = .ok (.isub, 1) := by decide +kernel
theorem dX11_text_24 : decode cX11_text 24 = .ok (.goto 17, 3) := by decide +kernel
theorem dX11_text_27 : decode cX11_text 27 = .ok (.aload_n 0, 1) := by decide +kernel
theorem dX11_text_28 : decode cX11_text 28 = .ok (.getfield 12, 3) := by decide +kernel
theorem dX11_text_31 : decode cX11_text 31 = .ok (.aload_n 0, 1) := by decide +kernel
theorem dX11_text_32 : decode cX11_text 32 = .ok (.getfield 69, 3) := by decide +kernel
theorem dX11_text_35 : decode cX11_text 35 = .ok (.getfield 271, 3) := by decide +kernel
theorem dX11_text_38 : decode cX11_text 38 = .ok (.invokevirtual 275, 3) := by decide +kernel
theorem dX11_text_4 : decode cX11_text 4 = .ok (.invokevirtual 268, 3) := by decide +kernel
theorem dX11_text_41 : decode cX11_text 41 = .ok (.ireturn, 1) := by decide +kernel
theorem dX11_text_7 : decode cX11_text 7 = .ok (.istore_n 1, 1) := by decide +kernel
theorem dX11_text_8 : decode cX11_text 8 = .ok (.aload_n 0, 1) := by decide +kernel
theorem dX11_text_9 : decode cX11_text 9 = .ok (.getfield 60, 3) := by decide +kernel
set_option maxHeartbeats 4000000 in
set_option maxRecDepth 100000 in
theorem k_X11_text (l : Launch) (D : va_G) (cI cS : ClassId) (sz : Nat) (a : Nat → Nat) (na nc N : Nat) (tw : SU) (l_s l_t l_i l_kp l_iz l_z l_tp l_o0 l_o1 l_o2 l_o3 l_n0 l_n1 l_n2 l_n3 : Int32) (u0 : SU) (hL : TyX (mkL tw l_s l_t l_i l_kp l_iz l_z l_tp l_o0 l_o1 l_o2 l_o3 l_n0 l_n1 l_n2 l_n3)) (hN : N = 0 ∨ N = 24576) : Met l yX11_text wsX11_text ({ frames := 6, cells := 0, slots := 0, locals := 240 }) (PQ D cI cS (wX cI cS a na nc N (mkL tw l_s l_t l_i l_kp l_iz l_z l_tp l_o0 l_o1 l_o2 l_o3 l_n0 l_n1 l_n2 l_n3) u0) sz [.ref (a 0)]) (QF (S := Int32 × SU) D (wX cI cS a na nc N (mkL tw l_s l_t l_i l_kp l_iz l_z l_tp l_o0 l_o1 l_o2 l_o3 l_n0 l_n1 l_n2 l_n3) u0) (fun q => wX cI cS a na nc N (mkL tw l_s l_t l_i l_kp l_iz l_z q.1 l_o0 l_o1 l_o2 l_o3 l_n0 l_n1 l_n2 l_n3) q.2) sz (fun r q => Rg (-2147483648) 2147483647 r ∧ Rg 0 0 q.1 ∧ (q.1.toInt = 0))) 0 0 (va_A (wX cI cS a na nc N (mkL tw l_s l_t l_i l_kp l_iz l_z l_tp l_o0 l_o1 l_o2 l_o3 l_n0 l_n1 l_n2 l_n3) u0) sz) := by
  refine Met.ofW (cc := cX11_text) (maxL := 2) (ret := (some .int)) (by decide) rfl ?_
  intro p e s m args below meth c s₁ B hml hv
  obtain ⟨rfl, hsz, hP, hKK, hD0⟩ := hv
  have hx := B.exec
  have hb := B.bytes
  have hr := B.returns
  have hts := atoms_spec (ws := wsX11_text) B.pre
  have hown : s.vm.findClass RX11 = some m.cls := findClass_of_methodNamed B.named
  have hlocks := B.notSynchronized
  have hK := hKK.1
  have hin5 : ∀ w ∈ wsX50, w ∈ wsX11_text := by decide +kernel
  have hin11 : ∀ w ∈ wsX110, w ∈ wsX11_text := by decide +kernel
  subst hsz
  have hD := hD0.self (sz := s.heap.size)
  obtain ⟨A, hAe⟩ : ∃ A, A = va_A (wX cI cS a na nc N (mkL tw l_s l_t l_i l_kp l_iz l_z l_tp l_o0 l_o1 l_o2 l_o3 l_n0 l_n1 l_n2 l_n3) u0) s.heap.size := ⟨_, rfl⟩
  rw [← hAe] at hD
  have hA : ∀ q : Nat, s.heap.size ≤ q → A q := fun q h => by rw [hAe]; exact Or.inr h
  have hS : va_S A s.heap s.heap [] := va_S.rf
  have hl := lv_entry ([.ref (a 0)]) (n := 2) (Nat.le_of_ble_eq_true rfl)
  rw [lg_entry_eq]
  generalize (lg_sl ([.ref (a 0)]) ++ List.replicate (2 - (lg_sl ([.ref (a 0)])).length) Slot.unset).toArray = ls at hl ⊢
  have hl : lv_has ls 2 [(0, .ref (a 0))] := hl
  obtain ⟨u, hu9⟩ : ∃ u : SU, u = u0 := ⟨_, rfl⟩
  rw [← hu9] at hP hD
  have p_s : Rg 0 12 l_s := hL.1
  have p_t : Rg 0 12 l_t := hL.2.1
  have p_i : Rg 0 12 l_i := hL.2.2.1
  have p_tp : Rg 0 120 l_tp := hL.2.2.2.1
  have p_n0 : Rg 0 40 l_n0 := hL.2.2.2.2.1
  have p_n1 : Rg 0 40 l_n1 := hL.2.2.2.2.2.1
  have p_n2 : Rg 0 40 l_n2 := hL.2.2.2.2.2.2.1
  have p_n3 : Rg 0 40 l_n3 := hL.2.2.2.2.2.2.2
  refine lv_aload_n hx hb dX11_text_0 rfl (lv_at hl 0 rfl) ?_
  refine va_get (D := D) (ci := 11) (v := .ref (a 23)) (C := RX11) (T := TX11) (N := 16) hx hb hts hin11 hown hK hP 0 rfl rfl 11 (by decide) (hts (.fieldLink RX11 69 "MissedPoints" "reader" "LMissedPoints$Reader;") (by decide +kernel)) (fun _ h9 => h9) rfl dX11_text_1 ?_
  refine wk_qi (wX cI cS a na nc N (mkL tw l_s l_t l_i l_kp l_iz l_z l_tp l_o0 l_o1 l_o2 l_o3 l_n0 l_n1 l_n2 l_n3)) u (As := []) (rest := []) ⟨hx, hb, hml, hown, hts⟩ (k_X5_readAll l D cI cS _ a na nc N (mkL tw l_s l_t l_i l_kp l_iz l_z l_tp l_o0 l_o1 l_o2 l_o3 l_n0 l_n1 l_n2 l_n3) u (show TyX (mkL tw l_s l_t l_i l_kp l_iz l_z l_tp l_o0 l_o1 l_o2 l_o3 l_n0 l_n1 l_n2 l_n3) from ⟨p_s, p_t, p_i, p_tp, p_n0, p_n1, p_n2, p_n3⟩) hN) hKK hP hD hS hA 23 (ci := 5) rfl rfl (cwV 0 hts gX11_text_X5_readAll rfl rfl rfl (by decide +kernel) ⟨Nat.le_of_ble_eq_true rfl, Nat.le_of_ble_eq_true rfl⟩) rfl hl.1 rfl (Nat.le_of_ble_eq_true rfl) dX11_text_4 ⟨Nat.le_of_ble_eq_true rfl, Nat.le_of_ble_eq_true rfl⟩ (fun r48996 u H locs hr48996 hP hD hS => ?_)
  refine lv_istore_n (lv' := [(1, .int r48996), (0, .ref (a 0))]) hx hb dX11_text_7 rfl hl (by decide) rfl (fun ls hl => ?_)
  refine lv_aload_n hx hb dX11_text_8 rfl (lv_at hl 1 rfl) ?_
  refine va_get (D := D) (ci := 11) (v := .ref (a 21)) (C := RX11) (T := TX11) (N := 16) hx hb hts hin11 hown hK hP 0 rfl rfl 10 (by decide) (hts (.fieldLink RX11 60 "MissedPoints" "tape" "LMissedPoints$Tape;") (by decide +kernel)) (fun _ h9 => h9) rfl dX11_text_9 ?_
  refine wk_qi (S := Int32 × SU) (fun q => wX cI cS a na nc N (mkL tw l_s l_t l_i l_kp l_iz l_z q.1 l_o0 l_o1 l_o2 l_o3 l_n0 l_n1 l_n2 l_n3) q.2) (l_tp, u) (As := []) (rest := []) ⟨hx, hb, hml, hown, hts⟩ (k_X8_clear l D cI cS _ a na nc N tw l_s l_t l_i l_kp l_iz l_z l_tp l_o0 l_o1 l_o2 l_o3 l_n0 l_n1 l_n2 l_n3 u (show TyX (mkL tw l_s l_t l_i l_kp l_iz l_z l_tp l_o0 l_o1 l_o2 l_o3 l_n0 l_n1 l_n2 l_n3) from ⟨p_s, p_t, p_i, p_tp, p_n0, p_n1, p_n2, p_n3⟩) hN) hKK hP hD hS hA 21 (ci := 8) rfl rfl (cwV 0 hts gX11_text_X8_clear rfl rfl rfl (by decide +kernel) ⟨Nat.le_of_ble_eq_true rfl, Nat.le_of_ble_eq_true rfl⟩) rfl hl.1 rfl (Nat.le_of_ble_eq_true rfl) dX11_text_12 ⟨Nat.le_of_ble_eq_true rfl, Nat.le_of_ble_eq_true rfl⟩ (fun r48997 q9 H locs hr48997 hP hD hS => ?_)
  obtain ⟨r48998, u⟩ := q9
  have hr48997 : Rg 0 120 r48997 ∧ Rg 0 0 r48998 ∧ (r48997.toInt = l_tp.toInt ∧ r48998.toInt = 0) := hr48997
  have hP : va_P D cls (wX cI cS a na nc N (mkL tw l_s l_t l_i l_kp l_iz l_z r48998 l_o0 l_o1 l_o2 l_o3 l_n0 l_n1 l_n2 l_n3) u) H := hP
  have hD : va_D A (wX cI cS a na nc N (mkL tw l_s l_t l_i l_kp l_iz l_z r48998 l_o0 l_o1 l_o2 l_o3 l_n0 l_n1 l_n2 l_n3) u) := hD
  have kr48997_0 := hr48997.2.2
  refine lv_pop hx hb dX11_text_15 rfl ?_
  refine lv_iload_n hx hb dX11_text_16 rfl (lv_at hl 0 rfl) ?_
  refine lv_if_lt (tgt := 27) hx hb dX11_text_17 (by decide) (fun c48999 => ?_) (fun c48999 => ?_)
  · have g49000 : Rg (-2147483648) (-1) r48996 := rg_ltl hr48996.1 (by decide : Rg 0 0 (0 : Int32)) c48999 (by decide)
    refine lv_aload_n hx hb dX11_text_27 rfl (lv_at hl 1 rfl) ?_
    refine va_get (D := D) (ci := 11) (v := .ref (a 1)) (C := RX11) (T := TX11) (N := 16) hx hb hts hin11 hown hK hP 0 rfl rfl 0 (by decide) (hts (.fieldLink RX11 12 "MissedPoints" "net" "LMissedPoints$Net;") (by decide +kernel)) (fun _ h9 => h9) rfl dX11_text_28 ?_
    refine lv_aload_n hx hb dX11_text_31 rfl (lv_at hl 1 rfl) ?_
    refine va_get (D := D) (ci := 11) (v := .ref (a 23)) (C := RX11) (T := TX11) (N := 16) hx hb hts hin11 hown hK hP 0 rfl rfl 11 (by decide) (hts (.fieldLink RX11 69 "MissedPoints" "reader" "LMissedPoints$Reader;") (by decide +kernel)) (fun _ h9 => h9) rfl dX11_text_32 ?_
    refine va_getN (D := D) (ci := 5) (v := .ref (a 24)) (C := RX5) (T := TX5) (N := 8) hx hb hts hin5 hown hK hP 23 rfl rfl 2 (by decide) (va_Nw.use rfl hKK.2.2.2.2.2.2.2.2.1) (fun _ h9 => h9) rfl dX11_text_35 ?_
    refine wk_qi (wX cI cS a na nc N (mkL tw l_s l_t l_i l_kp l_iz l_z r48998 l_o0 l_o1 l_o2 l_o3 l_n0 l_n1 l_n2 l_n3)) u (As := [.ref (a 24)]) (rest := []) ⟨hx, hb, hml, hown, hts⟩ (k_X2_joinAll l D cI cS _ a na nc N (mkL tw l_s l_t l_i l_kp l_iz l_z r48998 l_o0 l_o1 l_o2 l_o3 l_n0 l_n1 l_n2 l_n3) u (show TyX (mkL tw l_s l_t l_i l_kp l_iz l_z r48998 l_o0 l_o1 l_o2 l_o3 l_n0 l_n1 l_n2 l_n3) from ⟨p_s, p_t, p_i, (show Rg 0 120 r48998 from rg_w hr48997.2.1 (by decide) (by decide)), p_n0, p_n1, p_n2, p_n3⟩) hN) hKK hP hD hS hA 1 (ci := 2) rfl rfl (cwV 1 hts gX11_text_X2_joinAll rfl rfl rfl (by decide +kernel) ⟨Nat.le_of_ble_eq_true rfl, Nat.le_of_ble_eq_true rfl⟩) rfl hl.1 rfl (Nat.le_of_ble_eq_true rfl) dX11_text_38 ⟨Nat.le_of_ble_eq_true rfl, Nat.le_of_ble_eq_true rfl⟩ (fun r49001 u H locs hr49001 hP hD hS => ?_)
    subst hAe
    exact W.iret (v := r49001) hx hb hr (fun t ht hW => ⟨⟨_, (r48998, u), rfl, ⟨hr49001.1, hr48997.2.1, (show r48998.toInt = 0 from by have y90 : r48996.toInt < (0 : Int32).toInt := (lz_lt _ _).mp c48999; have y91 : Rg (-2147483648) (-1) r48996 := g49000; have y92 : Rg (-2147483648) (-1) r48996 := g49000; have y93 : Rg (-2147483648) 2147483647 r49001 := hr49001.1; have y94 : Rg 0 12 l_s := p_s; have y95 : Rg 0 12 l_t := p_t; have y96 : Rg 0 12 l_i := p_i; have y97 : Rg 0 0 r48998 := hr48997.2.1; have y98 : Rg 0 40 l_n0 := p_n0; have y99 : Rg 0 40 l_n1 := p_n1; have y910 : Rg 0 40 l_n2 := p_n2; have y911 : Rg 0 40 l_n3 := p_n3; have y912 : Rg (-2147483648) 2147483647 r49001 := hr49001.1; have y9c13 : (0 : Int32).toInt = 0 := (by decide); have y9c14 : (1 : Int32).toInt = 1 := (by decide); omega)⟩, by rw [ht]; exact hP, hD⟩, hS.F ht⟩) hS.2.2 dX11_text_41
  · have g49002 : Rg 0 2147483647 r48996 := rg_ler (by decide : Rg 0 0 (0 : Int32)) hr48996.1 (rg_nlt c48999) (by decide)
    refine lv_bipush (v := (-100)) hx hb dX11_text_20 (by decide) ?_
    refine lv_iload_n hx hb dX11_text_22 rfl (lv_at hl 0 rfl) ?_
    refine lv_isub hx hb dX11_text_23 ?_
    refine wk_topP (P := fun r => r = ((-100) : Int32) - r48996) rfl (fun r49003 qr49003 => ?_)
    refine lv_goto (tgt := 41) hx hb dX11_text_24 (by decide) ?_
    subst hAe
    exact W.iret (v := r49003) hx hb hr (fun t ht hW => ⟨⟨_, (r48998, u), rfl, ⟨(rg_any r49003), hr48997.2.1, (show r48998.toInt = 0 from by have y90 : (0 : Int32).toInt ≤ r48996.toInt := (lz_le _ _).mp (rg_nlt c48999); have y91 : Rg 0 2147483647 r48996 := g49002; have y92 : Rg 0 2147483647 r48996 := g49002; have y93 : Rg 0 12 l_s := p_s; have y94 : Rg 0 12 l_t := p_t; have y95 : Rg 0 12 l_i := p_i; have y96 : Rg 0 0 r48998 := hr48997.2.1; have y97 : Rg 0 40 l_n0 := p_n0; have y98 : Rg 0 40 l_n1 := p_n1; have y99 : Rg 0 40 l_n2 := p_n2; have y910 : Rg 0 40 l_n3 := p_n3; have y9c11 : ((-100) : Int32).toInt = -100 := (by decide); have y9c12 : (0 : Int32).toInt = 0 := (by decide); have y9c13 : (1 : Int32).toInt = 1 := (by decide); omega)⟩, by rw [ht]; exact hP, hD⟩, hS.F ht⟩) hS.2.2 dX11_text_41
theorem dX11_seed_0 : decode cX11_seed 0 = .ok (.aload_n 0, 1) := by decide +kernel
theorem dX11_seed_1 : decode cX11_seed 1 = .ok (.getfield 53, 3) := by decide +kernel
theorem dX11_seed_12 : decode cX11_seed 12 = .ok (.iload_n 1, 1) := by decide +kernel
theorem dX11_seed_13 : decode cX11_seed 13 = .ok (.putfield 141, 3) := by decide +kernel
theorem dX11_seed_16 : decode cX11_seed 16 = .ok (.iload_n 2, 1) := by decide +kernel
theorem dX11_seed_17 : decode cX11_seed 17 = .ok (.ireturn, 1) := by decide +kernel
theorem dX11_seed_4 : decode cX11_seed 4 = .ok (.getfield 141, 3) := by decide +kernel
theorem dX11_seed_7 : decode cX11_seed 7 = .ok (.istore_n 2, 1) := by decide +kernel
theorem dX11_seed_8 : decode cX11_seed 8 = .ok (.aload_n 0, 1) := by decide +kernel
theorem dX11_seed_9 : decode cX11_seed 9 = .ok (.getfield 53, 3) := by decide +kernel
set_option maxHeartbeats 4000000 in
set_option maxRecDepth 100000 in
theorem k_X11_seed (l : Launch) (D : va_G) (cI cS : ClassId) (sz : Nat) (a : Nat → Nat) (na nc N : Nat) (tw : SU) (l_s l_t l_i l_kp l_iz l_z l_tp l_o0 l_o1 l_o2 l_o3 l_n0 l_n1 l_n2 l_n3 : Int32) (u0 : SU) (hL : TyX (mkL tw l_s l_t l_i l_kp l_iz l_z l_tp l_o0 l_o1 l_o2 l_o3 l_n0 l_n1 l_n2 l_n3)) (hN : N = 0 ∨ N = 24576) (x0 : Int32) : Met l yX11_seed wsX11_seed ({ frames := 0, cells := 0, slots := 0, locals := 0 }) (PQ D cI cS (wX cI cS a na nc N (mkL tw l_s l_t l_i l_kp l_iz l_z l_tp l_o0 l_o1 l_o2 l_o3 l_n0 l_n1 l_n2 l_n3) u0) sz [.ref (a 0), .int x0]) (QF (S := Int32 × SU) D (wX cI cS a na nc N (mkL tw l_s l_t l_i l_kp l_iz l_z l_tp l_o0 l_o1 l_o2 l_o3 l_n0 l_n1 l_n2 l_n3) u0) (fun q => wX cI cS a na nc N (mkL tw l_s l_t l_i l_kp l_iz q.1 l_tp l_o0 l_o1 l_o2 l_o3 l_n0 l_n1 l_n2 l_n3) q.2) sz (fun r q => Rg (-2147483648) 2147483647 r ∧ (r.toInt = l_z.toInt ∧ q.1.toInt = x0.toInt))) 0 0 (va_A (wX cI cS a na nc N (mkL tw l_s l_t l_i l_kp l_iz l_z l_tp l_o0 l_o1 l_o2 l_o3 l_n0 l_n1 l_n2 l_n3) u0) sz) := by
  refine Met.ofW (cc := cX11_seed) (maxL := 3) (ret := (some .int)) (by decide) rfl ?_
  intro p e s m args below meth c s₁ B hml hv
  obtain ⟨rfl, hsz, hP, hKK, hD0⟩ := hv
  have hx := B.exec
  have hb := B.bytes
  have hr := B.returns
  have hts := atoms_spec (ws := wsX11_seed) B.pre
  have hown : s.vm.findClass RX11 = some m.cls := findClass_of_methodNamed B.named
  have hlocks := B.notSynchronized
  have hK := hKK.1
  have hin0 : ∀ w ∈ wsX00, w ∈ wsX11_seed := by decide +kernel
  have hin11 : ∀ w ∈ wsX110, w ∈ wsX11_seed := by decide +kernel
  subst hsz
  have hD := hD0.self (sz := s.heap.size)
  obtain ⟨A, hAe⟩ : ∃ A, A = va_A (wX cI cS a na nc N (mkL tw l_s l_t l_i l_kp l_iz l_z l_tp l_o0 l_o1 l_o2 l_o3 l_n0 l_n1 l_n2 l_n3) u0) s.heap.size := ⟨_, rfl⟩
  rw [← hAe] at hD
  have hA : ∀ q : Nat, s.heap.size ≤ q → A q := fun q h => by rw [hAe]; exact Or.inr h
  have hS : va_S A s.heap s.heap [] := va_S.rf
  have hl := lv_entry ([.ref (a 0), .int x0]) (n := 3) (Nat.le_of_ble_eq_true rfl)
  rw [lg_entry_eq]
  generalize (lg_sl ([.ref (a 0), .int x0]) ++ List.replicate (3 - (lg_sl ([.ref (a 0), .int x0])).length) Slot.unset).toArray = ls at hl ⊢
  have hl : lv_has ls 3 [(0, .ref (a 0)), (1, .int x0)] := hl
  obtain ⟨u, hu9⟩ : ∃ u : SU, u = u0 := ⟨_, rfl⟩
  rw [← hu9] at hP hD
  have p_s : Rg 0 12 l_s := hL.1
  have p_t : Rg 0 12 l_t := hL.2.1
  have p_i : Rg 0 12 l_i := hL.2.2.1
  have p_tp : Rg 0 120 l_tp := hL.2.2.2.1
  have p_n0 : Rg 0 40 l_n0 := hL.2.2.2.2.1
  have p_n1 : Rg 0 40 l_n1 := hL.2.2.2.2.2.1
  have p_n2 : Rg 0 40 l_n2 := hL.2.2.2.2.2.2.1
  have p_n3 : Rg 0 40 l_n3 := hL.2.2.2.2.2.2.2
  refine lv_aload_n hx hb dX11_seed_0 rfl (lv_at hl 0 rfl) ?_
  refine va_get (D := D) (ci := 11) (v := .ref (a 20)) (C := RX11) (T := TX11) (N := 16) hx hb hts hin11 hown hK hP 0 rfl rfl 9 (by decide) (hts (.fieldLink RX11 53 "MissedPoints" "draws" "LMissedPoints$Draws;") (by decide +kernel)) (fun _ h9 => h9) rfl dX11_seed_1 ?_
  refine va_getN (D := D) (ci := 0) (v := .int l_z) (C := RX0) (T := TX0) (N := 1) hx hb hts hin0 hown hK hP 20 rfl rfl 0 (by decide) (va_Nw.use rfl hKK.2.2.1) (fun _ h9 => h9) rfl dX11_seed_4 ?_
  refine lv_istore_n (lv' := [(2, .int l_z), (0, .ref (a 0)), (1, .int x0)]) hx hb dX11_seed_7 rfl hl (by decide) rfl (fun ls hl => ?_)
  refine lv_aload_n hx hb dX11_seed_8 rfl (lv_at hl 1 rfl) ?_
  refine va_get (D := D) (ci := 11) (v := .ref (a 20)) (C := RX11) (T := TX11) (N := 16) hx hb hts hin11 hown hK hP 0 rfl rfl 9 (by decide) (hts (.fieldLink RX11 53 "MissedPoints" "draws" "LMissedPoints$Draws;") (by decide +kernel)) (fun _ h9 => h9) rfl dX11_seed_9 ?_
  refine lv_iload_n hx hb dX11_seed_12 rfl (lv_at hl 2 rfl) ?_
  refine va_putN (D := D) (ci := 0) (v := .int x0) (ty := .int) (C := RX0) (T := TX0) (N := 1) hx hb hts hin0 tyX0 tyX0_ok nmX0 hown hK hP hD hS 20 rfl rfl 0 (by decide) (va_Nw.use rfl hKK.2.2.1) (fun _ h9 => h9) rfl (by decide +kernel) rfl rfl (Nat.le_of_ble_eq_true rfl) dX11_seed_13 (fun H locs hP hD hS => ?_)
  have hP : va_P D cls (wX cI cS a na nc N (mkL tw l_s l_t l_i l_kp l_iz x0 l_tp l_o0 l_o1 l_o2 l_o3 l_n0 l_n1 l_n2 l_n3) u) H := hP
  have hD : va_D A (wX cI cS a na nc N (mkL tw l_s l_t l_i l_kp l_iz x0 l_tp l_o0 l_o1 l_o2 l_o3 l_n0 l_n1 l_n2 l_n3) u) := hD
  refine lv_iload_n hx hb dX11_seed_16 rfl (lv_at hl 0 rfl) ?_
  subst hAe
  exact W.iret (v := l_z) hx hb hr (fun t ht hW => ⟨⟨_, (x0, u), rfl, ⟨(rg_any l_z), (show l_z.toInt = l_z.toInt ∧ x0.toInt = x0.toInt from by have y90 : Rg 0 12 l_s := p_s; have y91 : Rg 0 12 l_t := p_t; have y92 : Rg 0 12 l_i := p_i; have y93 : Rg 0 120 l_tp := p_tp; have y94 : Rg 0 40 l_n0 := p_n0; have y95 : Rg 0 40 l_n1 := p_n1; have y96 : Rg 0 40 l_n2 := p_n2; have y97 : Rg 0 40 l_n3 := p_n3; have y9c8 : (0 : Int32).toInt = 0 := (by decide); have y9c9 : (1 : Int32).toInt = 1 := (by decide); omega)⟩, by rw [ht]; exact hP, hD⟩, hS.F ht⟩) hS.2.2 dX11_seed_17
set_option maxRecDepth 20000 in
theorem ggX11_deal_X11_canDeal : GoodIn wsX11_deal wsX11_canDeal := goodIn_r _ [6] rfl (by decide +kernel)
set_option maxRecDepth 20000 in
theorem gX11_deal_X11_canDeal : GoodIn wsX11_deal (va_wsS RX11 279 yX11_canDeal wsX11_canDeal) := goodIn_app (goodIn_of _ (by decide +kernel)) ggX11_deal_X11_canDeal
set_option maxRecDepth 20000 in
theorem ggX11_deal_X2_dealAnew : GoodIn wsX11_deal wsX2_dealAnew := goodIn_r _ [11, 12, 13, 14, 15, 10, 16, 17, 18, 19, 20, 21, 22, 23, 24, 25, 26, 27, 28, 29, 30, 31, 32, 33, 34, 35, 36, 37, 38, 39, 40, 41, 42, 43, 44, 45, 73, 74, 75, 76] rfl (by decide +kernel)
set_option maxRecDepth 20000 in
theorem gX11_deal_X2_dealAnew : GoodIn wsX11_deal (wsV RX11 282 RX2 yX2_dealAnew wsX2_dealAnew) := goodIn_app (goodIn_of _ (by decide +kernel)) ggX11_deal_X2_dealAnew
set_option maxRecDepth 20000 in
theorem ggX11_deal_X2_lineCount : GoodIn wsX11_deal wsX2_lineCount := goodIn_r _ [49, 12, 17, 50, 51, 52, 53, 54, 55, 56, 73, 74, 75] rfl (by decide +kernel)
set_option maxRecDepth 20000 in
theorem gX11_deal_X2_lineCount : GoodIn wsX11_deal (wsV RX11 124 RX2 yX2_lineCount wsX2_lineCount) := goodIn_app (goodIn_of _ (by decide +kernel)) ggX11_deal_X2_lineCount
theorem dX11_deal_0 : decode cX11_deal 0 = .ok (.iload_n 1, 1) := by decide +kernel
theorem dX11_deal_1 : decode cX11_deal 1 = .ok (.iload_n 2, 1) := by decide +kernel
theorem dX11_deal_10 : decode cX11_deal 10 = .ok (.ireturn, 1) := by decide +kernel
theorem dX11_deal_11 : decode cX11_deal 11 = .ok (.aload_n 0, 1) := by decide +kernel
theorem dX11_deal_12 : decode cX11_deal 12 = .ok (.getfield 12, 3) := by decide +kernel
theorem dX11_deal_15 : decode cX11_deal 15 = .ok (.iload_n 1, 1) := by decide +kernel
theorem dX11_deal_16 : decode cX11_deal 16 = .ok (.iload_n 2, 1) := by decide +kernel
theorem dX11_deal_17 : decode cX11_deal 17 = .ok (.aload_n 0, 1) := by decide +kernel
theorem dX11_deal_18 : decode cX11_deal 18 = .ok (.getfield 53, 3) := by decide +kernel
theorem dX11_deal_2 : decode cX11_deal 2 = .ok (.invokestatic 279, 3) := by decide +kernel
theorem dX11_deal_21 : decode cX11_deal 21 = .ok (.invokevirtual 282, 3) := by decide +kernel
theorem dX11_deal_24 : decode cX11_deal 24 = .ok (.aload_n 0, 1) := by decide +kernel
theorem dX11_deal_25 : decode cX11_deal 25 = .ok (.getfield 12, 3) := by decide +kernel
theorem dX11_deal_28 : decode cX11_deal 28 = .ok (.invokevirtual 124, 3) := by decide +kernel
theorem dX11_deal_31 : decode cX11_deal 31 = .ok (.ireturn, 1) := by decide +kernel
theorem dX11_deal_5 : decode cX11_deal 5 = .ok (.ifCond .ne 6, 3) := by decide +kernel
theorem dX11_deal_8 : decode cX11_deal 8 = .ok (.bipush (-2), 2) := by decide +kernel
set_option maxHeartbeats 4000000 in
set_option maxRecDepth 100000 in
theorem k_X11_deal (l : Launch) (D : va_G) (cI cS : ClassId) (sz : Nat) (a : Nat → Nat) (na nc N : Nat) (tw : SU) (l_s l_t l_i l_kp l_iz l_z l_tp l_o0 l_o1 l_o2 l_o3 l_n0 l_n1 l_n2 l_n3 : Int32) (u0 : SU) (hL : TyX (mkL tw l_s l_t l_i l_kp l_iz l_z l_tp l_o0 l_o1 l_o2 l_o3 l_n0 l_n1 l_n2 l_n3)) (hN : N = 0 ∨ N = 24576) (x0 x1 : Int32) : Met l yX11_deal wsX11_deal ({ frames := 4, cells := 0, slots := 0, locals := 160 }) (PQ D cI cS (wX cI cS a na nc N (mkL tw l_s l_t l_i l_kp l_iz l_z l_tp l_o0 l_o1 l_o2 l_o3 l_n0 l_n1 l_n2 l_n3) u0) sz [.ref (a 0), .int x0, .int x1]) (QF (S := Int32 × Int32 × SU) D (wX cI cS a na nc N (mkL tw l_s l_t l_i l_kp l_iz l_z l_tp l_o0 l_o1 l_o2 l_o3 l_n0 l_n1 l_n2 l_n3) u0) (fun q => wX cI cS a na nc N (mkL tw q.1 l_t l_i l_kp l_iz q.2.1 l_tp l_o0 l_o1 l_o2 l_o3 l_n0 l_n1 l_n2 l_n3) q.2.2) sz (fun r q => Rg (-2147483648) 2147483647 r ∧ Rg 0 12 q.1 ∧ ((x0.toInt < 0 ∨ 12 < x0.toInt ∨ x1.toInt < 0 ∨ 10 < x1.toInt → q.2.1.toInt = l_z.toInt) ∧ (0 ≤ x0.toInt → x0.toInt ≤ 12 → 0 ≤ x1.toInt → x1.toInt ≤ 10 → q.2.1.toInt = (zout x0.toNatClampNeg l_z x0.toNatClampNeg).toInt)) ∧ ((x0.toInt < 0 ∨ 12 < x0.toInt ∨ x1.toInt < 0 ∨ 10 < x1.toInt → r.toInt = -2 ∧ q.1.toInt = l_s.toInt) ∧ (0 ≤ x0.toInt → x0.toInt ≤ 12 → 0 ≤ x1.toInt → x1.toInt ≤ 10 → q.1.toInt = x0.toInt)))) 0 0 (va_A (wX cI cS a na nc N (mkL tw l_s l_t l_i l_kp l_iz l_z l_tp l_o0 l_o1 l_o2 l_o3 l_n0 l_n1 l_n2 l_n3) u0) sz) := by
  refine Met.ofW (cc := cX11_deal) (maxL := 3) (ret := (some .int)) (by decide) rfl ?_
  intro p e s m args below meth c s₁ B hml hv
  obtain ⟨rfl, hsz, hP, hKK, hD0⟩ := hv
  have hx := B.exec
  have hb := B.bytes
  have hr := B.returns
  have hts := atoms_spec (ws := wsX11_deal) B.pre
  have hown : s.vm.findClass RX11 = some m.cls := findClass_of_methodNamed B.named
  have hlocks := B.notSynchronized
  have hK := hKK.1
  have hin11 : ∀ w ∈ wsX110, w ∈ wsX11_deal := by decide +kernel
  subst hsz
  have hD := hD0.self (sz := s.heap.size)
  obtain ⟨A, hAe⟩ : ∃ A, A = va_A (wX cI cS a na nc N (mkL tw l_s l_t l_i l_kp l_iz l_z l_tp l_o0 l_o1 l_o2 l_o3 l_n0 l_n1 l_n2 l_n3) u0) s.heap.size := ⟨_, rfl⟩
  rw [← hAe] at hD
  have hA : ∀ q : Nat, s.heap.size ≤ q → A q := fun q h => by rw [hAe]; exact Or.inr h
  have hS : va_S A s.heap s.heap [] := va_S.rf
  have hl := lv_entry ([.ref (a 0), .int x0, .int x1]) (n := 3) (Nat.le_of_ble_eq_true rfl)
  rw [lg_entry_eq]
  generalize (lg_sl ([.ref (a 0), .int x0, .int x1]) ++ List.replicate (3 - (lg_sl ([.ref (a 0), .int x0, .int x1])).length) Slot.unset).toArray = ls at hl ⊢
  have hl : lv_has ls 3 [(0, .ref (a 0)), (1, .int x0), (2, .int x1)] := hl
  obtain ⟨u, hu9⟩ : ∃ u : SU, u = u0 := ⟨_, rfl⟩
  rw [← hu9] at hP hD
  have p_s : Rg 0 12 l_s := hL.1
  have p_t : Rg 0 12 l_t := hL.2.1
  have p_i : Rg 0 12 l_i := hL.2.2.1
  have p_tp : Rg 0 120 l_tp := hL.2.2.2.1
  have p_n0 : Rg 0 40 l_n0 := hL.2.2.2.2.1
  have p_n1 : Rg 0 40 l_n1 := hL.2.2.2.2.2.1
  have p_n2 : Rg 0 40 l_n2 := hL.2.2.2.2.2.2.1
  have p_n3 : Rg 0 40 l_n3 := hL.2.2.2.2.2.2.2
  refine lv_iload_n hx hb dX11_deal_0 rfl (lv_at hl 1 rfl) ?_
  refine lv_iload_n hx hb dX11_deal_1 rfl (lv_at hl 2 rfl) ?_
  refine lz_ss (As := [.int x0, .int x1]) (rest := []) ⟨hx, hb, hml, hown, hts⟩ (k_X11_canDeal_z l D cI cS x0 x1) hKK (hP.sub (ws' := []) [] rfl) (va_cwS 2 hts gX11_deal_X11_canDeal rfl rfl rfl (by decide +kernel) ⟨Nat.le_of_ble_eq_true rfl, Nat.le_of_ble_eq_true rfl⟩) rfl hl.1 rfl (Nat.le_of_ble_eq_true rfl) dX11_deal_2 ⟨Nat.le_of_ble_eq_true rfl, Nat.le_of_ble_eq_true rfl⟩ (fun r49015 hr49015 => ?_)
  refine lv_if_ne (tgt := 11) hx hb dX11_deal_5 (by decide) (fun c49016 => ?_) (fun c49016 => ?_)
  · have g49017 : Rg 0 12 x0 := (hr49015.2.1 c49016).1
    have g49018 : Rg 0 10 x1 := (hr49015.2.1 c49016).2
    have g49019 : Rg 1 1 r49015 := rg_ne_lo (k := 0) hr49015.1 (by decide) c49016 (by decide)
    refine lv_aload_n hx hb dX11_deal_11 rfl (lv_at hl 0 rfl) ?_
    refine va_get (D := D) (ci := 11) (v := .ref (a 1)) (C := RX11) (T := TX11) (N := 16) hx hb hts hin11 hown hK hP 0 rfl rfl 0 (by decide) (hts (.fieldLink RX11 12 "MissedPoints" "net" "LMissedPoints$Net;") (by decide +kernel)) (fun _ h9 => h9) rfl dX11_deal_12 ?_
    refine lv_iload_n hx hb dX11_deal_15 rfl (lv_at hl 1 rfl) ?_
    refine lv_iload_n hx hb dX11_deal_16 rfl (lv_at hl 2 rfl) ?_
    refine lv_aload_n hx hb dX11_deal_17 rfl (lv_at hl 0 rfl) ?_
    refine va_get (D := D) (ci := 11) (v := .ref (a 20)) (C := RX11) (T := TX11) (N := 16) hx hb hts hin11 hown hK hP 0 rfl rfl 9 (by decide) (hts (.fieldLink RX11 53 "MissedPoints" "draws" "LMissedPoints$Draws;") (by decide +kernel)) (fun _ h9 => h9) rfl dX11_deal_18 ?_
    refine wk_qv (S := Int32 × Int32 × SU) (fun q => wX cI cS a na nc N (mkL tw q.1 l_t l_i l_kp l_iz q.2.1 l_tp l_o0 l_o1 l_o2 l_o3 l_n0 l_n1 l_n2 l_n3) q.2.2) (l_s, l_z, u) (As := [.int x0, .int x1, .ref (a 20)]) (rest := []) ⟨hx, hb, hml, hown, hts⟩ (k_X2_dealAnew l D cI cS _ a na nc N tw l_s l_t l_i l_kp l_iz l_z l_tp l_o0 l_o1 l_o2 l_o3 l_n0 l_n1 l_n2 l_n3 u (show TyX (mkL tw l_s l_t l_i l_kp l_iz l_z l_tp l_o0 l_o1 l_o2 l_o3 l_n0 l_n1 l_n2 l_n3) from ⟨p_s, p_t, p_i, p_tp, p_n0, p_n1, p_n2, p_n3⟩) hN x0 x1 g49017) hKK hP hD hS hA 1 (ci := 2) rfl rfl (cwV 3 hts gX11_deal_X2_dealAnew rfl rfl rfl (by decide +kernel) ⟨Nat.le_of_ble_eq_true rfl, Nat.le_of_ble_eq_true rfl⟩) rfl hl.1 rfl (Nat.le_of_ble_eq_true rfl) dX11_deal_21 ⟨Nat.le_of_ble_eq_true rfl, Nat.le_of_ble_eq_true rfl⟩ (fun q9 H locs hr49020 hP hD hS => ?_)
    obtain ⟨r49021, r49022, u⟩ := q9
    have hr49020 : Rg 0 12 r49021 ∧ (r49021.toInt = x0.toInt) ∧ (r49022.toInt = (zout x0.toNatClampNeg l_z x0.toNatClampNeg).toInt) := hr49020
    have hP : va_P D cls (wX cI cS a na nc N (mkL tw r49021 l_t l_i l_kp l_iz r49022 l_tp l_o0 l_o1 l_o2 l_o3 l_n0 l_n1 l_n2 l_n3) u) H := hP
    have hD : va_D A (wX cI cS a na nc N (mkL tw r49021 l_t l_i l_kp l_iz r49022 l_tp l_o0 l_o1 l_o2 l_o3 l_n0 l_n1 l_n2 l_n3) u) := hD
    have kr49020_0 := hr49020.2.1
    have kr49020_1 := hr49020.2.2
    refine lv_aload_n hx hb dX11_deal_24 rfl (lv_at hl 0 rfl) ?_
    refine va_get (D := D) (ci := 11) (v := .ref (a 1)) (C := RX11) (T := TX11) (N := 16) hx hb hts hin11 hown hK hP 0 rfl rfl 0 (by decide) (hts (.fieldLink RX11 12 "MissedPoints" "net" "LMissedPoints$Net;") (by decide +kernel)) (fun _ h9 => h9) rfl dX11_deal_25 ?_
    refine wk_sv 1 (As := []) (rest := []) ⟨hx, hb, hml, hown, hts⟩ (k_X2_lineCount l D cI cS a na nc N (mkL tw r49021 l_t l_i l_kp l_iz r49022 l_tp l_o0 l_o1 l_o2 l_o3 l_n0 l_n1 l_n2 l_n3) u (show TyX (mkL tw r49021 l_t l_i l_kp l_iz r49022 l_tp l_o0 l_o1 l_o2 l_o3 l_n0 l_n1 l_n2 l_n3) from ⟨hr49020.1, p_t, p_i, p_tp, p_n0, p_n1, p_n2, p_n3⟩) hN) hKK hP (ci := 2) rfl rfl (cwV 0 hts gX11_deal_X2_lineCount rfl rfl rfl (by decide +kernel) ⟨Nat.le_of_ble_eq_true rfl, Nat.le_of_ble_eq_true rfl⟩) rfl hl.1 rfl (Nat.le_of_ble_eq_true rfl) dX11_deal_28 ⟨Nat.le_of_ble_eq_true rfl, Nat.le_of_ble_eq_true rfl⟩ (fun r49023 hr49023 => ?_)
    subst hAe
    exact W.iret (v := r49023) hx hb hr (fun t ht hW => ⟨⟨_, (r49021, r49022, u), rfl, ⟨hr49023.1, hr49020.1, (show (x0.toInt < 0 ∨ 12 < x0.toInt ∨ x1.toInt < 0 ∨ 10 < x1.toInt → r49022.toInt = l_z.toInt) ∧ (0 ≤ x0.toInt → x0.toInt ≤ 12 → 0 ≤ x1.toInt → x1.toInt ≤ 10 → r49022.toInt = (zout x0.toNatClampNeg l_z x0.toNatClampNeg).toInt) from by have y90 : ¬ r49015.toInt = (0 : Int32).toInt := fun z => c49016 (Int32.toInt_inj.mp z); have y91 : Rg 0 12 x0 := g49017; have y92 : Rg 0 10 x1 := g49018; have y93 : Rg 1 1 r49015 := g49019; have y94 : Rg 0 12 x0 := g49017; have y95 : Rg 0 10 x1 := g49018; have y96 : Rg (-2147483648) 2147483647 r49023 := hr49023.1; have y97 : Rg 0 12 r49021 := hr49020.1; have y98 : Rg 0 12 l_t := p_t; have y99 : Rg 0 12 l_i := p_i; have y910 : Rg 0 120 l_tp := p_tp; have y911 : Rg 0 40 l_n0 := p_n0; have y912 : Rg 0 40 l_n1 := p_n1; have y913 : Rg 0 40 l_n2 := p_n2; have y914 : Rg 0 40 l_n3 := p_n3; have y915 : Rg (-2147483648) 2147483647 r49023 := hr49023.1; have y9c16 : (0 : Int32).toInt = 0 := (by decide); have y9c17 : (1 : Int32).toInt = 1 := (by decide); omega), (show (x0.toInt < 0 ∨ 12 < x0.toInt ∨ x1.toInt < 0 ∨ 10 < x1.toInt → r49023.toInt = -2 ∧ r49021.toInt = l_s.toInt) ∧ (0 ≤ x0.toInt → x0.toInt ≤ 12 → 0 ≤ x1.toInt → x1.toInt ≤ 10 → r49021.toInt = x0.toInt) from by have y90 : ¬ r49015.toInt = (0 : Int32).toInt := fun z => c49016 (Int32.toInt_inj.mp z); have y91 : Rg 0 12 x0 := g49017; have y92 : Rg 0 10 x1 := g49018; have y93 : Rg 1 1 r49015 := g49019; have y94 : Rg 0 12 x0 := g49017; have y95 : Rg 0 10 x1 := g49018; have y96 : Rg (-2147483648) 2147483647 r49023 := hr49023.1; have y97 : Rg 0 12 r49021 := hr49020.1; have y98 : Rg 0 12 l_t := p_t; have y99 : Rg 0 12 l_i := p_i; have y910 : Rg 0 120 l_tp := p_tp; have y911 : Rg 0 40 l_n0 := p_n0; have y912 : Rg 0 40 l_n1 := p_n1; have y913 : Rg 0 40 l_n2 := p_n2; have y914 : Rg 0 40 l_n3 := p_n3; have y915 : Rg (-2147483648) 2147483647 r49023 := hr49023.1; have y9c16 : (0 : Int32).toInt = 0 := (by decide); have y9c17 : (1 : Int32).toInt = 1 := (by decide); omega)⟩, by rw [ht]; exact hP, hD⟩, hS.F ht⟩) hS.2.2 dX11_deal_31
  · have zt49024 : (x0.toInt < 0 ∨ 12 < x0.toInt ∨ x1.toInt < 0 ∨ 10 < x1.toInt) := hr49015.2.2 c49016
    have g49025 : Rg 0 0 r49015 := wk_eql hr49015.1 (by decide : Rg 0 0 (0 : Int32)) c49016 (by decide)
    refine lv_bipush (v := (-2)) hx hb dX11_deal_8 (by decide) ?_
    subst hAe
    exact W.iret (v := (-2)) hx hb hr (fun t ht hW => ⟨⟨_, (l_s, l_z, u), rfl, ⟨(by decide : Rg (-2147483648) 2147483647 ((-2) : Int32)), p_s, (show (x0.toInt < 0 ∨ 12 < x0.toInt ∨ x1.toInt < 0 ∨ 10 < x1.toInt → l_z.toInt = l_z.toInt) ∧ (0 ≤ x0.toInt → x0.toInt ≤ 12 → 0 ≤ x1.toInt → x1.toInt ≤ 10 → l_z.toInt = (zout x0.toNatClampNeg l_z x0.toNatClampNeg).toInt) from by have y90 : r49015.toInt = (0 : Int32).toInt := congrArg Int32.toInt c49016; have y91 : Rg 0 0 r49015 := g49025; have y92 : Rg 0 12 l_s := p_s; have y93 : Rg 0 12 l_t := p_t; have y94 : Rg 0 12 l_i := p_i; have y95 : Rg 0 120 l_tp := p_tp; have y96 : Rg 0 40 l_n0 := p_n0; have y97 : Rg 0 40 l_n1 := p_n1; have y98 : Rg 0 40 l_n2 := p_n2; have y99 : Rg 0 40 l_n3 := p_n3; have y9c10 : ((-2) : Int32).toInt = -2 := (by decide); have y9c11 : (0 : Int32).toInt = 0 := (by decide); have y9c12 : (1 : Int32).toInt = 1 := (by decide); omega), (show (x0.toInt < 0 ∨ 12 < x0.toInt ∨ x1.toInt < 0 ∨ 10 < x1.toInt → ((-2) : Int32).toInt = -2 ∧ l_s.toInt = l_s.toInt) ∧ (0 ≤ x0.toInt → x0.toInt ≤ 12 → 0 ≤ x1.toInt → x1.toInt ≤ 10 → l_s.toInt = x0.toInt) from by have y90 : r49015.toInt = (0 : Int32).toInt := congrArg Int32.toInt c49016; have y91 : Rg 0 0 r49015 := g49025; have y92 : Rg 0 12 l_s := p_s; have y93 : Rg 0 12 l_t := p_t; have y94 : Rg 0 12 l_i := p_i; have y95 : Rg 0 120 l_tp := p_tp; have y96 : Rg 0 40 l_n0 := p_n0; have y97 : Rg 0 40 l_n1 := p_n1; have y98 : Rg 0 40 l_n2 := p_n2; have y99 : Rg 0 40 l_n3 := p_n3; have y9c10 : ((-2) : Int32).toInt = -2 := (by decide); have y9c11 : (0 : Int32).toInt = 0 := (by decide); have y9c12 : (1 : Int32).toInt = 1 := (by decide); omega)⟩, by rw [ht]; exact hP, hD⟩, hS.F ht⟩) hS.2.2 dX11_deal_10
set_option maxRecDepth 20000 in
theorem ggX11_image_X2_become : GoodIn wsX11_image wsX2_become := goodIn_r _ [10, 11, 12, 13, 14, 15, 16, 17, 35, 36, 37] rfl (by decide +kernel)
set_option maxRecDepth 20000 in
theorem gX11_image_X2_become : GoodIn wsX11_image (wsV RX11 351 RX2 yX2_become wsX2_become) := goodIn_app (goodIn_of _ (by decide +kernel)) ggX11_image_X2_become
theorem dX11_image_0 : decode cX11_image 0 = .ok (.aload_n 0, 1) := by decide +kernel
theorem dX11_image_1 : decode cX11_image 1 = .ok (.getfield 47, 3) := by decide +kernel
theorem dX11_image_11 : decode cX11_image 11 = .ok (.aload_n 0, 1) := by decide +kernel
theorem dX11_image_12 : decode cX11_image 12 = .ok (.aload_n 0, 1) := by decide +kernel
theorem dX11_image_13 : decode cX11_image 13 = .ok (.getfield 53, 3) := by decide +kernel
theorem dX11_image_16 : decode cX11_image 16 = .ok (.getfield 141, 3) := by decide +kernel
theorem dX11_image_19 : decode cX11_image 19 = .ok (.putfield 353, 3) := by decide +kernel
theorem dX11_image_22 : decode cX11_image 22 = .ok (.aload_n 0, 1) := by decide +kernel
theorem dX11_image_23 : decode cX11_image 23 = .ok (.iconst 1, 1) := by decide +kernel
theorem dX11_image_24 : decode cX11_image 24 = .ok (.putfield 356, 3) := by decide +kernel
theorem dX11_image_27 : decode cX11_image 27 = .ok (.aload_n 0, 1) := by decide +kernel
theorem dX11_image_28 : decode cX11_image 28 = .ok (.getfield 12, 3) := by decide +kernel
theorem dX11_image_31 : decode cX11_image 31 = .ok (.getfield 97, 3) := by decide +kernel
theorem dX11_image_34 : decode cX11_image 34 = .ok (.ireturn, 1) := by decide +kernel
theorem dX11_image_4 : decode cX11_image 4 = .ok (.aload_n 0, 1) := by decide +kernel
theorem dX11_image_5 : decode cX11_image 5 = .ok (.getfield 12, 3) := by decide +kernel
theorem dX11_image_8 : decode cX11_image 8 = .ok (.invokevirtual 351, 3) := by decide +kernel
set_option maxHeartbeats 4000000 in
set_option maxRecDepth 100000 in
theorem k_X11_image (l : Launch) (D : va_G) (cI cS : ClassId) (sz : Nat) (a : Nat → Nat) (na nc N : Nat) (tw : SU) (l_s l_t l_i l_kp l_iz l_z l_tp l_o0 l_o1 l_o2 l_o3 l_n0 l_n1 l_n2 l_n3 : Int32) (u0 : SU) (hL : TyX (mkL tw l_s l_t l_i l_kp l_iz l_z l_tp l_o0 l_o1 l_o2 l_o3 l_n0 l_n1 l_n2 l_n3)) (hN : N = 0 ∨ N = 24576) : Met l yX11_image wsX11_image ({ frames := 2, cells := 0, slots := 0, locals := 80 }) (PQ D cI cS (wX cI cS a na nc N (mkL tw l_s l_t l_i l_kp l_iz l_z l_tp l_o0 l_o1 l_o2 l_o3 l_n0 l_n1 l_n2 l_n3) u0) sz [.ref (a 0)]) (QF (S := Int32 × Int32 × Int32 × SU) D (wX cI cS a na nc N (mkL tw l_s l_t l_i l_kp l_iz l_z l_tp l_o0 l_o1 l_o2 l_o3 l_n0 l_n1 l_n2 l_n3) u0) (fun q => wX cI cS a na nc N (mkL tw l_s l_t q.1 q.2.2.1 q.2.1 l_z l_tp l_o0 l_o1 l_o2 l_o3 l_n0 l_n1 l_n2 l_n3) q.2.2.2) sz (fun r q => Rg 0 12 r ∧ Rg 0 12 q.1 ∧ Rg 1 1 q.2.2.1 ∧ (r.toInt = l_s.toInt ∧ q.2.2.1.toInt = 1 ∧ q.1.toInt = l_s.toInt ∧ q.2.1.toInt = l_z.toInt))) 0 0 (va_A (wX cI cS a na nc N (mkL tw l_s l_t l_i l_kp l_iz l_z l_tp l_o0 l_o1 l_o2 l_o3 l_n0 l_n1 l_n2 l_n3) u0) sz) := by
  refine Met.ofW (cc := cX11_image) (maxL := 1) (ret := (some .int)) (by decide) rfl ?_
  intro p e s m args below meth c s₁ B hml hv
  obtain ⟨rfl, hsz, hP, hKK, hD0⟩ := hv
  have hx := B.exec
  have hb := B.bytes
  have hr := B.returns
  have hts := atoms_spec (ws := wsX11_image) B.pre
  have hown : s.vm.findClass RX11 = some m.cls := findClass_of_methodNamed B.named
  have hlocks := B.notSynchronized
  have hK := hKK.1
  have hin0 : ∀ w ∈ wsX00, w ∈ wsX11_image := by decide +kernel
  have hin2 : ∀ w ∈ wsX20, w ∈ wsX11_image := by decide +kernel
  have hin11 : ∀ w ∈ wsX110, w ∈ wsX11_image := by decide +kernel
  subst hsz
  have hD := hD0.self (sz := s.heap.size)
  obtain ⟨A, hAe⟩ : ∃ A, A = va_A (wX cI cS a na nc N (mkL tw l_s l_t l_i l_kp l_iz l_z l_tp l_o0 l_o1 l_o2 l_o3 l_n0 l_n1 l_n2 l_n3) u0) s.heap.size := ⟨_, rfl⟩
  rw [← hAe] at hD
  have hA : ∀ q : Nat, s.heap.size ≤ q → A q := fun q h => by rw [hAe]; exact Or.inr h
  have hS : va_S A s.heap s.heap [] := va_S.rf
  have hl := lv_entry ([.ref (a 0)]) (n := 1) (Nat.le_of_ble_eq_true rfl)
  rw [lg_entry_eq]
  generalize (lg_sl ([.ref (a 0)]) ++ List.replicate (1 - (lg_sl ([.ref (a 0)])).length) Slot.unset).toArray = ls at hl ⊢
  have hl : lv_has ls 1 [(0, .ref (a 0))] := hl
  obtain ⟨u, hu9⟩ : ∃ u : SU, u = u0 := ⟨_, rfl⟩
  rw [← hu9] at hP hD
  have p_s : Rg 0 12 l_s := hL.1
  have p_t : Rg 0 12 l_t := hL.2.1
  have p_i : Rg 0 12 l_i := hL.2.2.1
  have p_tp : Rg 0 120 l_tp := hL.2.2.2.1
  have p_n0 : Rg 0 40 l_n0 := hL.2.2.2.2.1
  have p_n1 : Rg 0 40 l_n1 := hL.2.2.2.2.2.1
  have p_n2 : Rg 0 40 l_n2 := hL.2.2.2.2.2.2.1
  have p_n3 : Rg 0 40 l_n3 := hL.2.2.2.2.2.2.2
  refine lv_aload_n hx hb dX11_image_0 rfl (lv_at hl 0 rfl) ?_
  refine va_get (D := D) (ci := 11) (v := .ref (a 5)) (C := RX11) (T := TX11) (N := 16) hx hb hts hin11 hown hK hP 0 rfl rfl 6 (by decide) (hts (.fieldLink RX11 47 "MissedPoints" "imageNet" "LMissedPoints$Net;") (by decide +kernel)) (fun _ h9 => h9) rfl dX11_image_1 ?_
  refine lv_aload_n hx hb dX11_image_4 rfl (lv_at hl 0 rfl) ?_
  refine va_get (D := D) (ci := 11) (v := .ref (a 1)) (C := RX11) (T := TX11) (N := 16) hx hb hts hin11 hown hK hP 0 rfl rfl 0 (by decide) (hts (.fieldLink RX11 12 "MissedPoints" "net" "LMissedPoints$Net;") (by decide +kernel)) (fun _ h9 => h9) rfl dX11_image_5 ?_
  refine wk_qv (S := Int32 × SU) (fun q => wX cI cS a na nc N (mkL tw l_s l_t q.1 l_kp l_iz l_z l_tp l_o0 l_o1 l_o2 l_o3 l_n0 l_n1 l_n2 l_n3) q.2) (l_i, u) (As := [.ref (a 1)]) (rest := []) ⟨hx, hb, hml, hown, hts⟩ (k_X2_become_5 l D cI cS _ a na nc N tw l_s l_t l_i l_kp l_iz l_z l_tp l_o0 l_o1 l_o2 l_o3 l_n0 l_n1 l_n2 l_n3 u (show TyX (mkL tw l_s l_t l_i l_kp l_iz l_z l_tp l_o0 l_o1 l_o2 l_o3 l_n0 l_n1 l_n2 l_n3) from ⟨p_s, p_t, p_i, p_tp, p_n0, p_n1, p_n2, p_n3⟩) hN) hKK hP hD hS hA 5 (ci := 2) rfl rfl (cwV 1 hts gX11_image_X2_become rfl rfl rfl (by decide +kernel) ⟨Nat.le_of_ble_eq_true rfl, Nat.le_of_ble_eq_true rfl⟩) rfl hl.1 rfl (Nat.le_of_ble_eq_true rfl) dX11_image_8 ⟨Nat.le_of_ble_eq_true rfl, Nat.le_of_ble_eq_true rfl⟩ (fun q9 H locs hr49028 hP hD hS => ?_)
  obtain ⟨r49029, u⟩ := q9
  have hr49028 : Rg 0 12 r49029 ∧ (r49029.toInt = l_s.toInt) := hr49028
  have hP : va_P D cls (wX cI cS a na nc N (mkL tw l_s l_t r49029 l_kp l_iz l_z l_tp l_o0 l_o1 l_o2 l_o3 l_n0 l_n1 l_n2 l_n3) u) H := hP
  have hD : va_D A (wX cI cS a na nc N (mkL tw l_s l_t r49029 l_kp l_iz l_z l_tp l_o0 l_o1 l_o2 l_o3 l_n0 l_n1 l_n2 l_n3) u) := hD
  have kr49028_0 := hr49028.2
  refine lv_aload_n hx hb dX11_image_11 rfl (lv_at hl 0 rfl) ?_
  refine lv_aload_n hx hb dX11_image_12 rfl (lv_at hl 0 rfl) ?_
  refine va_get (D := D) (ci := 11) (v := .ref (a 20)) (C := RX11) (T := TX11) (N := 16) hx hb hts hin11 hown hK hP 0 rfl rfl 9 (by decide) (hts (.fieldLink RX11 53 "MissedPoints" "draws" "LMissedPoints$Draws;") (by decide +kernel)) (fun _ h9 => h9) rfl dX11_image_13 ?_
  refine va_getN (D := D) (ci := 0) (v := .int l_z) (C := RX0) (T := TX0) (N := 1) hx hb hts hin0 hown hK hP 20 rfl rfl 0 (by decide) (va_Nw.use rfl hKK.2.2.1) (fun _ h9 => h9) rfl dX11_image_16 ?_
  refine va_put (D := D) (ci := 11) (v := .int l_z) (ty := .int) (C := RX11) (T := TX11) (N := 16) hx hb hts hin11 tyX11 tyX11_ok nmX11 hown hK hP hD hS 0 rfl rfl 8 (by decide) (hts (.fieldLink RX11 353 "MissedPoints" "imageZ" "I") (by decide +kernel)) (fun _ h9 => h9) rfl (by decide +kernel) rfl rfl (Nat.le_of_ble_eq_true rfl) dX11_image_19 (fun H locs hP hD hS => ?_)
  have hP : va_P D cls (wX cI cS a na nc N (mkL tw l_s l_t r49029 l_kp l_z l_z l_tp l_o0 l_o1 l_o2 l_o3 l_n0 l_n1 l_n2 l_n3) u) H := hP
  have hD : va_D A (wX cI cS a na nc N (mkL tw l_s l_t r49029 l_kp l_z l_z l_tp l_o0 l_o1 l_o2 l_o3 l_n0 l_n1 l_n2 l_n3) u) := hD
  refine lv_aload_n hx hb dX11_image_22 rfl (lv_at hl 0 rfl) ?_
  refine lv_iconst (v := 1) hx hb dX11_image_23 (by decide) ?_
  refine va_put (D := D) (ci := 11) (v := .int 1) (ty := .boolean) (C := RX11) (T := TX11) (N := 16) hx hb hts hin11 tyX11 tyX11_ok nmX11 hown hK hP hD hS 0 rfl rfl 7 (by decide) (hts (.fieldLink RX11 356 "MissedPoints" "imageKept" "Z") (by decide +kernel)) (fun _ h9 => h9) rfl (by decide +kernel) rfl rfl (Nat.le_of_ble_eq_true rfl) dX11_image_24 (fun H locs hP hD hS => ?_)
  have hP : va_P D cls (wX cI cS a na nc N (mkL tw l_s l_t r49029 (1 : Int32) l_z l_z l_tp l_o0 l_o1 l_o2 l_o3 l_n0 l_n1 l_n2 l_n3) u) H := hP
  have hD : va_D A (wX cI cS a na nc N (mkL tw l_s l_t r49029 (1 : Int32) l_z l_z l_tp l_o0 l_o1 l_o2 l_o3 l_n0 l_n1 l_n2 l_n3) u) := hD
  refine lv_aload_n hx hb dX11_image_27 rfl (lv_at hl 0 rfl) ?_
  refine va_get (D := D) (ci := 11) (v := .ref (a 1)) (C := RX11) (T := TX11) (N := 16) hx hb hts hin11 hown hK hP 0 rfl rfl 0 (by decide) (hts (.fieldLink RX11 12 "MissedPoints" "net" "LMissedPoints$Net;") (by decide +kernel)) (fun _ h9 => h9) rfl dX11_image_28 ?_
  refine va_getN (D := D) (ci := 2) (v := .int l_s) (C := RX2) (T := TX2) (N := 3) hx hb hts hin2 hown hK hP 1 rfl rfl 1 (by decide) (va_Nw.use rfl hKK.2.2.2.2.2.2.2.2.2.2.1) (fun _ h9 => h9) rfl dX11_image_31 ?_
  subst hAe
  exact W.iret (v := l_s) hx hb hr (fun t ht hW => ⟨⟨_, (r49029, l_z, (1 : Int32), u), rfl, ⟨p_s, hr49028.1, (by decide : Rg 1 1 (1 : Int32)), (show l_s.toInt = l_s.toInt ∧ (1 : Int32).toInt = 1 ∧ r49029.toInt = l_s.toInt ∧ l_z.toInt = l_z.toInt from by have y90 : Rg 0 12 l_s := p_s; have y91 : Rg 0 12 l_s := p_s; have y92 : Rg 0 12 l_t := p_t; have y93 : Rg 0 12 r49029 := hr49028.1; have y94 : Rg 0 120 l_tp := p_tp; have y95 : Rg 0 40 l_n0 := p_n0; have y96 : Rg 0 40 l_n1 := p_n1; have y97 : Rg 0 40 l_n2 := p_n2; have y98 : Rg 0 40 l_n3 := p_n3; have y99 : Rg 0 12 l_s := p_s; have y9c10 : (0 : Int32).toInt = 0 := (by decide); have y9c11 : (1 : Int32).toInt = 1 := (by decide); omega)⟩, by rw [ht]; exact hP, hD⟩, hS.F ht⟩) hS.2.2 dX11_image_34
set_option maxRecDepth 20000 in
theorem ggX11_back_X2_become : GoodIn wsX11_back wsX2_become := goodIn_r _ [10, 11, 12, 13, 14, 15, 16, 17, 35, 36, 37] rfl (by decide +kernel)
set_option maxRecDepth 20000 in
theorem gX11_back_X2_become : GoodIn wsX11_back (wsV RX11 351 RX2 yX2_become wsX2_become) := goodIn_app (goodIn_of _ (by decide +kernel)) ggX11_back_X2_become
theorem dX11_back_0 : decode cX11_back 0 = .ok (.aload_n 0, 1) := by decide +kernel
theorem dX11_back_1 : decode cX11_back 1 = .ok (.getfield 356, 3) := by decide +kernel
theorem dX11_back_10 : decode cX11_back 10 = .ok (.aload_n 0, 1) := by decide +kernel
theorem dX11_back_11 : decode cX11_back 11 = .ok (.getfield 12, 3) := by decide +kernel
theorem dX11_back_14 : decode cX11_back 14 = .ok (.aload_n 0, 1) := by decide +kernel
theorem dX11_back_15 : decode cX11_back 15 = .ok (.getfield 47, 3) := by decide +kernel
theorem dX11_back_18 : decode cX11_back 18 = .ok (.invokevirtual 351, 3) := by decide +kernel
theorem dX11_back_21 : decode cX11_back 21 = .ok (.aload_n 0, 1) := by decide +kernel
theorem dX11_back_22 : decode cX11_back 22 = .ok (.getfield 53, 3) := by decide +kernel
theorem dX11_back_25 : decode cX11_back 25 = .ok (.aload_n 0, 1) := by decide +kernel
theorem dX11_back_26 : decode cX11_back 26 = .ok (.getfield 353, 3) := by decide +kernel
theorem dX11_back_29 : decode cX11_back 29 = .ok (.putfield 141, 3) := by decide +kernel
theorem dX11_back_32 : decode cX11_back 32 = .ok (.aload_n 0, 1) := by decide +kernel
theorem dX11_back_33 : decode cX11_back 33 = .ok (.getfield 12, 3) := by decide +kernel
theorem dX11_back_36 : decode cX11_back 36 = .ok (.getfield 97, 3) := by decide +kernel
theorem dX11_back_39 : decode cX11_back 39 = .ok (.ireturn, 1) := by decide +kernel
theorem dX11_back_4 : decode cX11_back 4 = .ok (.ifCond .ne 6, 3) := by decide +kernel
theorem dX11_back_7 : decode cX11_back 7 = .ok (.bipush (-3), 2) := by decide +kernel
theorem dX11_back_9 : decode cX11_back 9 = .ok (.ireturn, 1) := by decide +kernel
set_option maxHeartbeats 4000000 in
set_option maxRecDepth 100000 in
theorem k_X11_back (l : Launch) (D : va_G) (cI cS : ClassId) (sz : Nat) (a : Nat → Nat) (na nc N : Nat) (tw : SU) (l_s l_t l_i l_kp l_iz l_z l_tp l_o0 l_o1 l_o2 l_o3 l_n0 l_n1 l_n2 l_n3 : Int32) (u0 : SU) (hL : TyX (mkL tw l_s l_t l_i l_kp l_iz l_z l_tp l_o0 l_o1 l_o2 l_o3 l_n0 l_n1 l_n2 l_n3)) (hN : N = 0 ∨ N = 24576) : Met l yX11_back wsX11_back ({ frames := 2, cells := 0, slots := 0, locals := 80 }) (PQ D cI cS (wX cI cS a na nc N (mkL tw l_s l_t l_i l_kp l_iz l_z l_tp l_o0 l_o1 l_o2 l_o3 l_n0 l_n1 l_n2 l_n3) u0) sz [.ref (a 0)]) (QF (S := Int32 × Int32 × SU) D (wX cI cS a na nc N (mkL tw l_s l_t l_i l_kp l_iz l_z l_tp l_o0 l_o1 l_o2 l_o3 l_n0 l_n1 l_n2 l_n3) u0) (fun q => wX cI cS a na nc N (mkL tw q.1 l_t l_i l_kp l_iz q.2.1 l_tp l_o0 l_o1 l_o2 l_o3 l_n0 l_n1 l_n2 l_n3) q.2.2) sz (fun r q => Rg (-3) 12 r ∧ Rg 0 12 q.1 ∧ ((l_kp.toInt = 0 → r.toInt = -3 ∧ q.1.toInt = l_s.toInt) ∧ (¬ l_kp.toInt = 0 → r.toInt = l_i.toInt ∧ q.1.toInt = l_i.toInt)) ∧ ((l_kp.toInt = 0 → q.2.1.toInt = l_z.toInt) ∧ (¬ l_kp.toInt = 0 → q.2.1.toInt = l_iz.toInt)))) 0 0 (va_A (wX cI cS a na nc N (mkL tw l_s l_t l_i l_kp l_iz l_z l_tp l_o0 l_o1 l_o2 l_o3 l_n0 l_n1 l_n2 l_n3) u0) sz) := by
  refine Met.ofW (cc := cX11_back) (maxL := 1) (ret := (some .int)) (by decide) rfl ?_
  intro p e s m args below meth c s₁ B hml hv
  obtain ⟨rfl, hsz, hP, hKK, hD0⟩ := hv
  have hx := B.exec
  have hb := B.bytes
  have hr := B.returns
  have hts := atoms_spec (ws := wsX11_back) B.pre
  have hown : s.vm.findClass RX11 = some m.cls := findClass_of_methodNamed B.named
  have hlocks := B.notSynchronized
  have hK := hKK.1
  have hin0 : ∀ w ∈ wsX00, w ∈ wsX11_back := by decide +kernel
  have hin2 : ∀ w ∈ wsX20, w ∈ wsX11_back := by decide +kernel
  have hin11 : ∀ w ∈ wsX110, w ∈ wsX11_back := by decide +kernel
  subst hsz
  have hD := hD0.self (sz := s.heap.size)
  obtain ⟨A, hAe⟩ : ∃ A, A = va_A (wX cI cS a na nc N (mkL tw l_s l_t l_i l_kp l_iz l_z l_tp l_o0 l_o1 l_o2 l_o3 l_n0 l_n1 l_n2 l_n3) u0) s.heap.size := ⟨_, rfl⟩
  rw [← hAe] at hD
  have hA : ∀ q : Nat, s.heap.size ≤ q → A q := fun q h => by rw [hAe]; exact Or.inr h
  have hS : va_S A s.heap s.heap [] := va_S.rf
  have hl := lv_entry ([.ref (a 0)]) (n := 1) (Nat.le_of_ble_eq_true rfl)
  rw [lg_entry_eq]
  generalize (lg_sl ([.ref (a 0)]) ++ List.replicate (1 - (lg_sl ([.ref (a 0)])).length) Slot.unset).toArray = ls at hl ⊢
  have hl : lv_has ls 1 [(0, .ref (a 0))] := hl
  obtain ⟨u, hu9⟩ : ∃ u : SU, u = u0 := ⟨_, rfl⟩
  rw [← hu9] at hP hD
  have p_s : Rg 0 12 l_s := hL.1
  have p_t : Rg 0 12 l_t := hL.2.1
  have p_i : Rg 0 12 l_i := hL.2.2.1
  have p_tp : Rg 0 120 l_tp := hL.2.2.2.1
  have p_n0 : Rg 0 40 l_n0 := hL.2.2.2.2.1
  have p_n1 : Rg 0 40 l_n1 := hL.2.2.2.2.2.1
  have p_n2 : Rg 0 40 l_n2 := hL.2.2.2.2.2.2.1
  have p_n3 : Rg 0 40 l_n3 := hL.2.2.2.2.2.2.2
  refine lv_aload_n hx hb dX11_back_0 rfl (lv_at hl 0 rfl) ?_
  refine va_get (D := D) (ci := 11) (v := .int l_kp) (C := RX11) (T := TX11) (N := 16) hx hb hts hin11 hown hK hP 0 rfl rfl 7 (by decide) (hts (.fieldLink RX11 356 "MissedPoints" "imageKept" "Z") (by decide +kernel)) (fun _ h9 => h9) rfl dX11_back_1 ?_
  refine lv_if_ne (tgt := 10) hx hb dX11_back_4 (by decide) (fun c49034 => ?_) (fun c49034 => ?_)
  · refine lv_aload_n hx hb dX11_back_10 rfl (lv_at hl 0 rfl) ?_
    refine va_get (D := D) (ci := 11) (v := .ref (a 1)) (C := RX11) (T := TX11) (N := 16) hx hb hts hin11 hown hK hP 0 rfl rfl 0 (by decide) (hts (.fieldLink RX11 12 "MissedPoints" "net" "LMissedPoints$Net;") (by decide +kernel)) (fun _ h9 => h9) rfl dX11_back_11 ?_
    refine lv_aload_n hx hb dX11_back_14 rfl (lv_at hl 0 rfl) ?_
    refine va_get (D := D) (ci := 11) (v := .ref (a 5)) (C := RX11) (T := TX11) (N := 16) hx hb hts hin11 hown hK hP 0 rfl rfl 6 (by decide) (hts (.fieldLink RX11 47 "MissedPoints" "imageNet" "LMissedPoints$Net;") (by decide +kernel)) (fun _ h9 => h9) rfl dX11_back_15 ?_
    refine wk_qv (S := Int32 × SU) (fun q => wX cI cS a na nc N (mkL tw q.1 l_t l_i l_kp l_iz l_z l_tp l_o0 l_o1 l_o2 l_o3 l_n0 l_n1 l_n2 l_n3) q.2) (l_s, u) (As := [.ref (a 5)]) (rest := []) ⟨hx, hb, hml, hown, hts⟩ (k_X2_become_1 l D cI cS _ a na nc N tw l_s l_t l_i l_kp l_iz l_z l_tp l_o0 l_o1 l_o2 l_o3 l_n0 l_n1 l_n2 l_n3 u (show TyX (mkL tw l_s l_t l_i l_kp l_iz l_z l_tp l_o0 l_o1 l_o2 l_o3 l_n0 l_n1 l_n2 l_n3) from ⟨p_s, p_t, p_i, p_tp, p_n0, p_n1, p_n2, p_n3⟩) hN) hKK hP hD hS hA 1 (ci := 2) rfl rfl (cwV 1 hts gX11_back_X2_become rfl rfl rfl (by decide +kernel) ⟨Nat.le_of_ble_eq_true rfl, Nat.le_of_ble_eq_true rfl⟩) rfl hl.1 rfl (Nat.le_of_ble_eq_true rfl) dX11_back_18 ⟨Nat.le_of_ble_eq_true rfl, Nat.le_of_ble_eq_true rfl⟩ (fun q9 H locs hr49035 hP hD hS => ?_)
    obtain ⟨r49036, u⟩ := q9
    have hr49035 : Rg 0 12 r49036 ∧ (r49036.toInt = l_i.toInt) := hr49035
    have hP : va_P D cls (wX cI cS a na nc N (mkL tw r49036 l_t l_i l_kp l_iz l_z l_tp l_o0 l_o1 l_o2 l_o3 l_n0 l_n1 l_n2 l_n3) u) H := hP
    have hD : va_D A (wX cI cS a na nc N (mkL tw r49036 l_t l_i l_kp l_iz l_z l_tp l_o0 l_o1 l_o2 l_o3 l_n0 l_n1 l_n2 l_n3) u) := hD
    have kr49035_0 := hr49035.2
    refine lv_aload_n hx hb dX11_back_21 rfl (lv_at hl 0 rfl) ?_
    refine va_get (D := D) (ci := 11) (v := .ref (a 20)) (C := RX11) (T := TX11) (N := 16) hx hb hts hin11 hown hK hP 0 rfl rfl 9 (by decide) (hts (.fieldLink RX11 53 "MissedPoints" "draws" "LMissedPoints$Draws;") (by decide +kernel)) (fun _ h9 => h9) rfl dX11_back_22 ?_
    refine lv_aload_n hx hb dX11_back_25 rfl (lv_at hl 0 rfl) ?_
    refine va_get (D := D) (ci := 11) (v := .int l_iz) (C := RX11) (T := TX11) (N := 16) hx hb hts hin11 hown hK hP 0 rfl rfl 8 (by decide) (hts (.fieldLink RX11 353 "MissedPoints" "imageZ" "I") (by decide +kernel)) (fun _ h9 => h9) rfl dX11_back_26 ?_
    refine va_putN (D := D) (ci := 0) (v := .int l_iz) (ty := .int) (C := RX0) (T := TX0) (N := 1) hx hb hts hin0 tyX0 tyX0_ok nmX0 hown hK hP hD hS 20 rfl rfl 0 (by decide) (va_Nw.use rfl hKK.2.2.1) (fun _ h9 => h9) rfl (by decide +kernel) rfl rfl (Nat.le_of_ble_eq_true rfl) dX11_back_29 (fun H locs hP hD hS => ?_)
    have hP : va_P D cls (wX cI cS a na nc N (mkL tw r49036 l_t l_i l_kp l_iz l_iz l_tp l_o0 l_o1 l_o2 l_o3 l_n0 l_n1 l_n2 l_n3) u) H := hP
    have hD : va_D A (wX cI cS a na nc N (mkL tw r49036 l_t l_i l_kp l_iz l_iz l_tp l_o0 l_o1 l_o2 l_o3 l_n0 l_n1 l_n2 l_n3) u) := hD
    refine lv_aload_n hx hb dX11_back_32 rfl (lv_at hl 0 rfl) ?_
    refine va_get (D := D) (ci := 11) (v := .ref (a 1)) (C := RX11) (T := TX11) (N := 16) hx hb hts hin11 hown hK hP 0 rfl rfl 0 (by decide) (hts (.fieldLink RX11 12 "MissedPoints" "net" "LMissedPoints$Net;") (by decide +kernel)) (fun _ h9 => h9) rfl dX11_back_33 ?_
    refine va_getN (D := D) (ci := 2) (v := .int r49036) (C := RX2) (T := TX2) (N := 3) hx hb hts hin2 hown hK hP 1 rfl rfl 1 (by decide) (va_Nw.use rfl hKK.2.2.2.2.2.2.2.2.2.2.1) (fun _ h9 => h9) rfl dX11_back_36 ?_
    subst hAe
    exact W.iret (v := r49036) hx hb hr (fun t ht hW => ⟨⟨_, (r49036, l_iz, u), rfl, ⟨(show Rg (-3) 12 r49036 from rg_w hr49035.1 (by decide) (by decide)), hr49035.1, (show (l_kp.toInt = 0 → r49036.toInt = -3 ∧ r49036.toInt = l_s.toInt) ∧ (¬ l_kp.toInt = 0 → r49036.toInt = l_i.toInt ∧ r49036.toInt = l_i.toInt) from by have y90 : ¬ l_kp.toInt = (0 : Int32).toInt := fun z => c49034 (Int32.toInt_inj.mp z); have y91 : Rg 0 12 r49036 := hr49035.1; have y92 : Rg 0 12 r49036 := hr49035.1; have y93 : Rg 0 12 l_t := p_t; have y94 : Rg 0 12 l_i := p_i; have y95 : Rg 0 120 l_tp := p_tp; have y96 : Rg 0 40 l_n0 := p_n0; have y97 : Rg 0 40 l_n1 := p_n1; have y98 : Rg 0 40 l_n2 := p_n2; have y99 : Rg 0 40 l_n3 := p_n3; have y910 : Rg 0 12 r49036 := hr49035.1; have y9c11 : (0 : Int32).toInt = 0 := (by decide); have y9c12 : (1 : Int32).toInt = 1 := (by decide); omega), (show (l_kp.toInt = 0 → l_iz.toInt = l_z.toInt) ∧ (¬ l_kp.toInt = 0 → l_iz.toInt = l_iz.toInt) from by have y90 : ¬ l_kp.toInt = (0 : Int32).toInt := fun z => c49034 (Int32.toInt_inj.mp z); have y91 : Rg 0 12 r49036 := hr49035.1; have y92 : Rg 0 12 r49036 := hr49035.1; have y93 : Rg 0 12 l_t := p_t; have y94 : Rg 0 12 l_i := p_i; have y95 : Rg 0 120 l_tp := p_tp; have y96 : Rg 0 40 l_n0 := p_n0; have y97 : Rg 0 40 l_n1 := p_n1; have y98 : Rg 0 40 l_n2 := p_n2; have y99 : Rg 0 40 l_n3 := p_n3; have y910 : Rg 0 12 r49036 := hr49035.1; have y9c11 : (0 : Int32).toInt = 0 := (by decide); have y9c12 : (1 : Int32).toInt = 1 := (by decide); omega)⟩, by rw [ht]; exact hP, hD⟩, hS.F ht⟩) hS.2.2 dX11_back_39
  · have g49037 : Rg 0 0 l_kp := wk_eql (rg_any l_kp) (by decide : Rg 0 0 (0 : Int32)) c49034 (by decide)
    refine lv_bipush (v := (-3)) hx hb dX11_back_7 (by decide) ?_
    subst hAe
    exact W.iret (v := (-3)) hx hb hr (fun t ht hW => ⟨⟨_, (l_s, l_z, u), rfl, ⟨(by decide : Rg (-3) 12 ((-3) : Int32)), p_s, (show (l_kp.toInt = 0 → ((-3) : Int32).toInt = -3 ∧ l_s.toInt = l_s.toInt) ∧ (¬ l_kp.toInt = 0 → ((-3) : Int32).toInt = l_i.toInt ∧ l_s.toInt = l_i.toInt) from by have y90 : l_kp.toInt = (0 : Int32).toInt := congrArg Int32.toInt c49034; have y91 : Rg 0 0 l_kp := g49037; have y92 : Rg 0 12 l_s := p_s; have y93 : Rg 0 12 l_t := p_t; have y94 : Rg 0 12 l_i := p_i; have y95 : Rg 0 0 l_kp := g49037; have y96 : Rg 0 120 l_tp := p_tp; have y97 : Rg 0 40 l_n0 := p_n0; have y98 : Rg 0 40 l_n1 := p_n1; have y99 : Rg 0 40 l_n2 := p_n2; have y910 : Rg 0 40 l_n3 := p_n3; have y9c11 : ((-3) : Int32).toInt = -3 := (by decide); have y9c12 : (0 : Int32).toInt = 0 := (by decide); have y9c13 : (1 : Int32).toInt = 1 := (by decide); omega), (show (l_kp.toInt = 0 → l_z.toInt = l_z.toInt) ∧ (¬ l_kp.toInt = 0 → l_z.toInt = l_iz.toInt) from by have y90 : l_kp.toInt = (0 : Int32).toInt := congrArg Int32.toInt c49034; have y91 : Rg 0 0 l_kp := g49037; have y92 : Rg 0 12 l_s := p_s; have y93 : Rg 0 12 l_t := p_t; have y94 : Rg 0 12 l_i := p_i; have y95 : Rg 0 0 l_kp := g49037; have y96 : Rg 0 120 l_tp := p_tp; have y97 : Rg 0 40 l_n0 := p_n0; have y98 : Rg 0 40 l_n1 := p_n1; have y99 : Rg 0 40 l_n2 := p_n2; have y910 : Rg 0 40 l_n3 := p_n3; have y9c11 : ((-3) : Int32).toInt = -3 := (by decide); have y9c12 : (0 : Int32).toInt = 0 := (by decide); have y9c13 : (1 : Int32).toInt = 1 := (by decide); omega)⟩, by rw [ht]; exact hP, hD⟩, hS.F ht⟩) hS.2.2 dX11_back_9
