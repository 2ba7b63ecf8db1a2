theorem dX12_paint_66 : decode cX12_paint 66 = .ok (.aload_n 0, 1) := by decide +kernel
theorem dX12_paint_67 : decode cX12_paint 67 = .ok (.getfield 26, 3) := by decide +kernel
theorem dX12_paint_70 : decode cX12_paint 70 = .ok (.iload_n 3, 1) := by decide +kernel
theorem dX12_paint_71 : decode cX12_paint 71 = .ok (.iaload, 1) := by decide +kernel
theorem dX12_paint_72 : decode cX12_paint 72 = .ok (.goto 4, 3) := by decide +kernel
set_option maxHeartbeats 4000000 in
set_option maxRecDepth 100000 in
theorem w_X12_paint (l : Launch) (D : va_G) (cI cS : ClassId) (sz : Nat) (b : Nat → Nat) (l_m l_z l_tp l_hs l_to l_tk l_wo : Int32) (l_so l_sz l_kp : Nat → Int32) (v0 : SU) (hL : TyL (mkM l_m l_z l_tp l_hs l_to l_tk l_wo l_so l_sz l_kp)) (hV : TyV v0) (x0 x1 : Int32) : Met l yX12_paint wsX12_paint ({ frames := 4, cells := 0, slots := 0, locals := 160 }) (PQ D cI cS (wM cI b (mkM l_m l_z l_tp l_hs l_to l_tk l_wo l_so l_sz l_kp) v0) sz [.ref (b 0), .int x0, .int x1]) (QF (S := (Nat → Int32) × (Nat → Int32) × SU) D (wM cI b (mkM l_m l_z l_tp l_hs l_to l_tk l_wo l_so l_sz l_kp) v0) (fun q => wM cI b (mkM l_m l_z l_tp l_hs l_to l_tk l_wo q.1 q.2.1 l_kp) q.2.2) sz (fun r q => TyV q.2.2 ∧ Rg (-2) 12 r ∧ Ar (-1) 1 q.1 ∧ Ar 0 40 q.2.1 ∧ ((x0.toInt < 0 ∨ 3 < x0.toInt ∨ x1.toInt < 0 ∨ 1 < x1.toInt → r.toInt = -2) ∧ (0 ≤ x0.toInt → x0.toInt ≤ 3 → 0 ≤ x1.toInt → x1.toInt ≤ 1 → r.toInt = l_m.toInt)) ∧ ((r.toInt = -2 → q.1 = l_so ∧ q.2.1 = l_sz) ∧ (¬ r.toInt = -2 → q.1 = upd l_so x0.toNatClampNeg x1 ∧ q.2.1 = upd l_sz x0.toNatClampNeg l_m)))) 0 0 (va_A (wM cI b (mkM l_m l_z l_tp l_hs l_to l_tk l_wo l_so l_sz l_kp) v0) sz) := by
  refine Met.ofW (cc := cX12_paint) (maxL := 4) (ret := (some .int)) (by decide) rfl ?_
  intro p e s m args below meth c s₁ B hml hv
  obtain ⟨rfl, hsz, hP, hKK, hD0⟩ := hv
  have hx := B.exec
  have hb := B.bytes
  have hr := B.returns
  have hts := atoms_spec (ws := wsX12_paint) B.pre
  have hown : s.vm.findClass RX12 = some m.cls := findClass_of_methodNamed B.named
  have hlocks := B.notSynchronized
  have hK := hKK.1
  have hin12 : ∀ w ∈ wsX120, w ∈ wsX12_paint := by decide +kernel
  subst hsz
  have hD := hD0.self (sz := s.heap.size)
  obtain ⟨A, hAe⟩ : ∃ A, A = va_A (wM cI b (mkM l_m l_z l_tp l_hs l_to l_tk l_wo l_so l_sz l_kp) v0) s.heap.size := ⟨_, rfl⟩
  rw [← hAe] at hD
  have hA : ∀ q : Nat, s.heap.size ≤ q → A q := fun q h => by rw [hAe]; exact Or.inr h
  have hS : va_S A s.heap s.heap [] := va_S.rf
  have hl := lv_entry ([.ref (b 0), .int x0, .int x1]) (n := 4) (Nat.le_of_ble_eq_true rfl)
  rw [lg_entry_eq]
  generalize (lg_sl ([.ref (b 0), .int x0, .int x1]) ++ List.replicate (4 - (lg_sl ([.ref (b 0), .int x0, .int x1])).length) Slot.unset).toArray = ls at hl ⊢
  have hl : lv_has ls 4 [(0, .ref (b 0)), (1, .int x0), (2, .int x1)] := hl
  obtain ⟨v, hv9⟩ : ∃ v : SU, v = v0 := ⟨_, rfl⟩
  rw [← hv9] at hP hD hV
  have p_m : Rg 0 12 l_m := hL.1
  have p_tp : Rg 0 120 l_tp := hL.2.1
  have p_so : Ar (-1) 1 l_so := hL.2.2.1
  have p_sz : Ar 0 40 l_sz := hL.2.2.2.1
  have p_kp : Kp l_kp := hL.2.2.2.2.1
  have p_to : Rg 0 120 l_to := hL.2.2.2.2.2
  have lp42 : ∀ (n42 : Nat) (y42_l3 : Int32) (v : SU) (H : Heap) (locs : List Loc) (ls : Array Slot), Rg 0 3 x0 → Rg 0 40 y42_l3 → Ar (-1) 1 (upd l_so x0.toNatClampNeg x1) → Ar 0 40 (upd l_sz x0.toNatClampNeg l_m) → (0 ≤ x1.toInt ∧ x1.toInt ≤ 1 ∧ 0 ≤ x0.toInt ∧ x0.toInt ≤ 3) → TyV v → va_P D cls (wM cI b (mkM l_m l_z l_tp l_hs l_to l_tk l_wo (upd l_so x0.toNatClampNeg x1) (upd l_sz x0.toNatClampNeg l_m) l_kp) v) H → va_D A (wM cI b (mkM l_m l_z l_tp l_hs l_to l_tk l_wo (upd l_so x0.toNatClampNeg x1) (upd l_sz x0.toNatClampNeg l_m) l_kp) v) → va_S A s.heap H locs → lv_has ls 4 [(0, .ref (b 0)), (1, .int x0), (3, .int y42_l3)] → 40 - y42_l3.toInt < (n42 : Int) → W p l e (headSpec wsX12_paint ({ frames := 4, cells := 0, slots := 0, locals := 160 })).room s m ([.ref (b 0), .int x0, .int x1]).toArray below meth c H locs 0 0 (MQ below (QF (S := (Nat → Int32) × (Nat → Int32) × SU) D (wM cI b (mkM l_m l_z l_tp l_hs l_to l_tk l_wo l_so l_sz l_kp) v0) (fun q => wM cI b (mkM l_m l_z l_tp l_hs l_to l_tk l_wo q.1 q.2.1 l_kp) q.2.2) s.heap.size (fun r q => TyV q.2.2 ∧ Rg (-2) 12 r ∧ Ar (-1) 1 q.1 ∧ Ar 0 40 q.2.1 ∧ ((x0.toInt < 0 ∨ 3 < x0.toInt ∨ x1.toInt < 0 ∨ 1 < x1.toInt → r.toInt = -2) ∧ (0 ≤ x0.toInt → x0.toInt ≤ 3 → 0 ≤ x1.toInt → x1.toInt ≤ 1 → r.toInt = l_m.toInt)) ∧ ((r.toInt = -2 → q.1 = l_so ∧ q.2.1 = l_sz) ∧ (¬ r.toInt = -2 → q.1 = upd l_so x0.toNatClampNeg x1 ∧ q.2.1 = upd l_sz x0.toNatClampNeg l_m)))) ([.ref (b 0), .int x0, .int x1]).toArray s 0 0 (va_A (wM cI b (mkM l_m l_z l_tp l_hs l_to l_tk l_wo l_so l_sz l_kp) v0) s.heap.size)) (F0 m 42 ls []) := by
    intro n42
    induction n42 with
    | zero =>
      intro y42_l3 v H locs ls g42_l1 g42_l3 g42_kso g42_ksz x42_0 hV hP hD hS hl hm42
      exact absurd rfl (me_z g42_l3 hm42)
    | succ n42 ih42 =>
      intro y42_l3 v H locs ls g42_l1 g42_l3 g42_kso g42_ksz x42_0 hV hP hD hS hl hm42
      refine lv_iload_n hx hb dX12_paint_42 rfl (lv_at hl 2 rfl) ?_
      refine lv_bipush (v := 40) hx hb dX12_paint_43 (by decide) ?_
      refine lv_icmp_ge (tgt := 83) hx hb dX12_paint_45 (by decide) (fun c21807 => ?_) (fun c21807 => ?_)
      · have g21808 : Rg 40 40 y42_l3 := rg_ler (by decide : Rg 40 40 (40 : Int32)) g42_l3 c21807 (by decide)
        refine lv_aload_n hx hb dX12_paint_83 rfl (lv_at hl 0 rfl) ?_
        refine va_get (D := D) (ci := 12) (v := .int l_m) (C := RX12) (T := TX12) (N := 24) hx hb hts hin12 hown hK hP 0 rfl rfl 0 (by decide) (hts (.fieldLink RX12 63 "MissedPointsModel" "many" "I") (by decide +kernel)) (fun _ h9 => h9) rfl dX12_paint_84 ?_
        subst hAe
        exact W.iret (v := l_m) hx hb hr (fun t ht hW => ⟨⟨_, ((upd l_so x0.toNatClampNeg x1), (upd l_sz x0.toNatClampNeg l_m), v), rfl, ⟨hV, (show Rg (-2) 12 l_m from rg_w p_m (by decide) (by decide)), g42_kso, g42_ksz, (show (x0.toInt < 0 ∨ 3 < x0.toInt ∨ x1.toInt < 0 ∨ 1 < x1.toInt → l_m.toInt = -2) ∧ (0 ≤ x0.toInt → x0.toInt ≤ 3 → 0 ≤ x1.toInt → x1.toInt ≤ 1 → l_m.toInt = l_m.toInt) from by have y90 : (40 : Int32).toInt ≤ y42_l3.toInt := (lz_le _ _).mp c21807; have y91 : Rg 40 40 y42_l3 := g21808; have y92 : Rg 0 3 x0 := g42_l1; have y93 : Rg 40 40 y42_l3 := g21808; have y94 : Rg 0 12 l_m := p_m; have y95 : Rg 0 12 l_m := p_m; have y96 : Rg 0 120 l_tp := p_tp; have y97 : Rg 0 120 l_to := p_to; have y98 : Rg 0 12 l_m := p_m; have y9c9 : (0 : Int32).toInt = 0 := (by decide); have y9c10 : (1 : Int32).toInt = 1 := (by decide); have y9c11 : (40 : Int32).toInt = 40 := (by decide); omega), ⟨fun h9 => absurd h9 (by have y90 : (40 : Int32).toInt ≤ y42_l3.toInt := (lz_le _ _).mp c21807; have y91 : Rg 40 40 y42_l3 := g21808; have y92 : Rg 0 3 x0 := g42_l1; have y93 : Rg 40 40 y42_l3 := g21808; have y94 : Rg 0 12 l_m := p_m; have y95 : Rg 0 12 l_m := p_m; have y96 : Rg 0 120 l_tp := p_tp; have y97 : Rg 0 120 l_to := p_to; have y9c8 : (0 : Int32).toInt = 0 := (by decide); have y9c9 : (1 : Int32).toInt = 1 := (by decide); have y9c10 : (40 : Int32).toInt = 40 := (by decide); omega), fun _ => ⟨rfl, rfl⟩⟩⟩, by rw [ht]; exact hP, hD⟩, hS.F ht⟩) hS.2.2 dX12_paint_87
      · have g21809 : Rg 0 39 y42_l3 := rg_ltl g42_l3 (by decide : Rg 40 40 (40 : Int32)) (rg_nle c21807) (by decide)
        refine lv_aload_n hx hb dX12_paint_48 rfl (lv_at hl 0 rfl) ?_
        refine va_get (D := D) (ci := 12) (v := .ref (b 11)) (C := RX12) (T := TX12) (N := 24) hx hb hts hin12 hown hK hP 0 rfl rfl 18 (by decide) (hts (.fieldLink RX12 44 "MissedPointsModel" "items" "[I") (by decide +kernel)) (fun _ h9 => h9) rfl dX12_paint_49 ?_
        refine lv_bipush (v := 40) hx hb dX12_paint_52 (by decide) ?_
        refine lv_iload_n hx hb dX12_paint_54 rfl (lv_at hl 1 rfl) ?_
        refine wk_imul (f := 120) hx hb dX12_paint_55 (by decide : Rg 0 40 (40 : Int32)) g42_l1 (by decide) (fun r21810 hr21810 er21810 qr21810 => ?_)
        refine lv_iload_n hx hb dX12_paint_56 rfl (lv_at hl 2 rfl) ?_
        refine wk_iadd (e1 := 0) (f := 159) hx hb dX12_paint_57 hr21810 g21809 (by decide) (fun r21811 hr21811 er21811 qr21811 => ?_)
        refine lv_iload_n hx hb dX12_paint_58 rfl (lv_at hl 2 rfl) ?_
        refine lv_aload_n hx hb dX12_paint_59 rfl (lv_at hl 0 rfl) ?_
        refine va_get (D := D) (ci := 12) (v := .int l_m) (C := RX12) (T := TX12) (N := 24) hx hb hts hin12 hown hK hP 0 rfl rfl 0 (by decide) (hts (.fieldLink RX12 63 "MissedPointsModel" "many" "I") (by decide +kernel)) (fun _ h9 => h9) rfl dX12_paint_60 ?_
        refine lv_icmp_ge (tgt := 75) hx hb dX12_paint_63 (by decide) (fun c21812 => ?_) (fun c21812 => ?_)
        · refine lv_iconst (v := 0) hx hb dX12_paint_75 (by decide) ?_
          refine ms_11 hx hb hK hP hD hS hV rfl (rg_in hr21811 (by decide) (by decide)) dX12_paint_76 (fun v H locs hV ev21813 hP hD hS => ?_)
          refine wk_iinc (lv' := fun r => [(3, .int r), (0, .ref (b 0)), (1, .int x0)]) (e1 := 1) (f := 40) hx hb dX12_paint_77 hl (k := 2) rfl (by decide) g21809 (by decide) (fun _ => rfl) (fun r21814 ls hr21814 er21814 hl => ?_)
          refine lv_goto (tgt := 42) hx hb dX12_paint_80 (by decide) ?_
          exact ih42 r21814 v _ _ ls g42_l1 (show Rg 0 40 r21814 from rg_w hr21814 (by decide) (by decide)) g42_kso g42_ksz (show (0 ≤ x1.toInt ∧ x1.toInt ≤ 1 ∧ 0 ≤ x0.toInt ∧ x0.toInt ≤ 3) from by have y90 : y42_l3.toInt < (40 : Int32).toInt := (lz_lt _ _).mp (rg_nle c21807); have y91 : l_m.toInt ≤ y42_l3.toInt := (lz_le _ _).mp c21812; have y92 : Rg 0 39 y42_l3 := g21809; have y93 : Rg 0 3 x0 := g42_l1; have y94 : Rg 1 40 r21814 := hr21814; have y95 : Rg 0 12 l_m := p_m; have y96 : Rg 0 120 l_tp := p_tp; have y97 : Rg 0 120 l_to := p_to; have y9c8 : (0 : Int32).toInt = 0 := (by decide); have y9c9 : (1 : Int32).toInt = 1 := (by decide); have y9c10 : (40 : Int32).toInt = 40 := (by decide); omega) hV hP hD hS (lv_sub (l' := [(0, .ref (b 0)), (1, .int x0), (3, .int r21814)]) hl [1, 2, 0] rfl) (me_up hm42 er21814 (by decide))
        · have g21815 : Rg 1 12 l_m := rg_ltr g21809 p_m (rg_nle c21812) (by decide)
          have g21816 : Rg 0 11 y42_l3 := rg_ltl g21809 p_m (rg_nle c21812) (by decide)
          refine lv_aload_n hx hb dX12_paint_66 rfl (lv_at hl 0 rfl) ?_
          refine va_get (D := D) (ci := 12) (v := .ref (b 5)) (C := RX12) (T := TX12) (N := 24) hx hb hts hin12 hown hK hP 0 rfl rfl 6 (by decide) (hts (.fieldLink RX12 26 "MissedPointsModel" "mates" "[I") (by decide +kernel)) (fun _ h9 => h9) rfl dX12_paint_67 ?_
          refine lv_iload_n hx hb dX12_paint_70 rfl (lv_at hl 2 rfl) ?_
          refine wk_ald hx hb hK hP 5 0 rfl rfl (rg_in g21816 (by decide) (by decide)) dX12_paint_71 hV.2.2.1 (fun r21817 hr21817 => ?_)
          refine lv_goto (tgt := 76) hx hb dX12_paint_72 (by decide) ?_
          refine ms_11 hx hb hK hP hD hS hV rfl (rg_in hr21811 (by decide) (by decide)) dX12_paint_76 (fun v H locs hV ev21818 hP hD hS => ?_)
          refine wk_iinc (lv' := fun r => [(3, .int r), (0, .ref (b 0)), (1, .int x0)]) (e1 := 1) (f := 12) hx hb dX12_paint_77 hl (k := 2) rfl (by decide) g21816 (by decide) (fun _ => rfl) (fun r21819 ls hr21819 er21819 hl => ?_)
          refine lv_goto (tgt := 42) hx hb dX12_paint_80 (by decide) ?_
          exact ih42 r21819 v _ _ ls g42_l1 (show Rg 0 40 r21819 from rg_w hr21819 (by decide) (by decide)) g42_kso g42_ksz (show (0 ≤ x1.toInt ∧ x1.toInt ≤ 1 ∧ 0 ≤ x0.toInt ∧ x0.toInt ≤ 3) from by have y90 : y42_l3.toInt < (40 : Int32).toInt := (lz_lt _ _).mp (rg_nle c21807); have y91 : y42_l3.toInt < l_m.toInt := (lz_lt _ _).mp (rg_nle c21812); have y92 : Rg 0 11 y42_l3 := g21816; have y93 : Rg 1 12 l_m := g21815; have y94 : Rg 0 3 x0 := g42_l1; have y95 : Rg 1 12 r21819 := hr21819; have y96 : Rg 1 12 l_m := g21815; have y97 : Rg 0 120 l_tp := p_tp; have y98 : Rg 0 120 l_to := p_to; have y9c9 : (0 : Int32).toInt = 0 := (by decide); have y9c10 : (1 : Int32).toInt = 1 := (by decide); have y9c11 : (40 : Int32).toInt = 40 := (by decide); omega) hV hP hD hS (lv_sub (l' := [(0, .ref (b 0)), (1, .int x0), (3, .int r21819)]) hl [1, 2, 0] rfl) (me_up hm42 er21819 (by decide))
  refine lv_iload_n hx hb dX12_paint_0 rfl (lv_at hl 1 rfl) ?_
  refine lz_ss (As := [.int x0]) (rest := []) ⟨hx, hb, hml, hown, hts⟩ (w_X12_isSheet l D cI cS x0) hKK (hP.sub (ws' := []) [] rfl) (va_cwS 1 hts gX12_paint_X12_isSheet rfl rfl rfl (by decide +kernel) ⟨Nat.le_of_ble_eq_true rfl, Nat.le_of_ble_eq_true rfl⟩) rfl hl.1 rfl (Nat.le_of_ble_eq_true rfl) dX12_paint_1 ⟨Nat.le_of_ble_eq_true rfl, Nat.le_of_ble_eq_true rfl⟩ (fun r21820 hr21820 => ?_)
  refine lv_if_eq (tgt := 16) hx hb dX12_paint_4 (by decide) (fun c21821 => ?_) (fun c21821 => ?_)
  · have zt21822 : (x0.toInt < 0 ∨ 3 < x0.toInt) := hr21820.2.2 c21821
    have g21823 : Rg 0 0 r21820 := wk_eql hr21820.1 (by decide : Rg 0 0 (0 : Int32)) c21821 (by decide)
    refine lv_bipush (v := (-2)) hx hb dX12_paint_16 (by decide) ?_
    subst hAe
    exact W.iret (v := (-2)) hx hb hr (fun t ht hW => ⟨⟨_, (l_so, l_sz, v), rfl, ⟨hV, (by decide : Rg (-2) 12 ((-2) : Int32)), p_so, p_sz, (show (x0.toInt < 0 ∨ 3 < x0.toInt ∨ x1.toInt < 0 ∨ 1 < x1.toInt → ((-2) : Int32).toInt = -2) ∧ (0 ≤ x0.toInt → x0.toInt ≤ 3 → 0 ≤ x1.toInt → x1.toInt ≤ 1 → ((-2) : Int32).toInt = l_m.toInt) from by have y90 : r21820.toInt = (0 : Int32).toInt := congrArg Int32.toInt c21821; have y91 : Rg 0 0 r21820 := g21823; have y92 : Rg 0 12 l_m := p_m; have y93 : Rg 0 120 l_tp := p_tp; have y94 : Rg 0 120 l_to := p_to; have y9c5 : ((-2) : Int32).toInt = -2 := (by decide); have y9c6 : (0 : Int32).toInt = 0 := (by decide); have y9c7 : (1 : Int32).toInt = 1 := (by decide); omega), ⟨fun _ => ⟨rfl, rfl⟩, fun h9 => absurd (by decide) h9⟩⟩, by rw [ht]; exact hP, hD⟩, hS.F ht⟩) hS.2.2 dX12_paint_18
  · have g21824 : Rg 0 3 x0 := (hr21820.2.1 c21821)
    have g21825 : Rg 1 1 r21820 := rg_ne_lo (k := 0) hr21820.1 (by decide) c21821 (by decide)
    refine lv_iload_n hx hb dX12_paint_7 rfl (lv_at hl 2 rfl) ?_
    refine lv_iconst (v := 0) hx hb dX12_paint_8 (by decide) ?_
    refine lv_iconst (v := 1) hx hb dX12_paint_9 (by decide) ?_
    refine lz_ss (As := [.int x1, .int 0, .int 1]) (rest := []) ⟨hx, hb, hml, hown, hts⟩ (w_X12_in l D cI cS x1 (0 : Int32) (1 : Int32)) hKK (hP.sub (ws' := []) [] rfl) (va_cwS 3 hts gX12_paint_X12_in rfl rfl rfl (by decide +kernel) ⟨Nat.le_of_ble_eq_true rfl, Nat.le_of_ble_eq_true rfl⟩) rfl hl.1 rfl (Nat.le_of_ble_eq_true rfl) dX12_paint_10 ⟨Nat.le_of_ble_eq_true rfl, Nat.le_of_ble_eq_true rfl⟩ (fun r21826 hr21826 => ?_)
    refine lv_if_ne (tgt := 19) hx hb dX12_paint_13 (by decide) (fun c21827 => ?_) (fun c21827 => ?_)
    · have zn21828 : (0 : Int32).toInt ≤ x1.toInt ∧ x1.toInt ≤ (1 : Int32).toInt := (hr21826.2.2 c21827)
      have g21829 : Rg 0 1 x1 := wk_in3 (rg_any x1) (by decide : Rg 0 0 (0 : Int32)) (by decide : Rg 1 1 (1 : Int32)) (hr21826.2.2 c21827) (by decide)
      have g21830 : Rg 1 1 r21826 := rg_ne_lo (k := 0) hr21826.1 (by decide) c21827 (by decide)
      refine lv_aload_n hx hb dX12_paint_19 rfl (lv_at hl 0 rfl) ?_
      refine wk_qv (wM cI b (mkM l_m l_z l_tp l_hs l_to l_tk l_wo l_so l_sz l_kp)) v (As := []) (rest := []) ⟨hx, hb, hml, hown, hts⟩ (w_X12_laysMates l D cI cS _ b (mkM l_m l_z l_tp l_hs l_to l_tk l_wo l_so l_sz l_kp) v (show TyL (mkM l_m l_z l_tp l_hs l_to l_tk l_wo l_so l_sz l_kp) from ⟨p_m, p_tp, p_so, p_sz, p_kp, p_to⟩) hV) hKK hP hD hS hA 0 (ci := 12) rfl rfl (cwV 0 hts gX12_paint_X12_laysMates rfl rfl rfl (by decide +kernel) ⟨Nat.le_of_ble_eq_true rfl, Nat.le_of_ble_eq_true rfl⟩) rfl hl.1 rfl (Nat.le_of_ble_eq_true rfl) dX12_paint_20 ⟨Nat.le_of_ble_eq_true rfl, Nat.le_of_ble_eq_true rfl⟩ (fun v H locs hr21831 hP hD hS => ?_)
      have hV := hr21831.1
      refine lv_aload_n hx hb dX12_paint_23 rfl (lv_at hl 0 rfl) ?_
      refine va_get (D := D) (ci := 12) (v := .ref (b 9)) (C := RX12) (T := TX12) (N := 24) hx hb hts hin12 hown hK hP 0 rfl rfl 16 (by decide) (hts (.fieldLink RX12 38 "MissedPointsModel" "sort" "[I") (by decide +kernel)) (fun _ h9 => h9) rfl dX12_paint_24 ?_
      refine lv_iload_n hx hb dX12_paint_27 rfl (lv_at hl 1 rfl) ?_
      refine lv_iload_n hx hb dX12_paint_28 rfl (lv_at hl 2 rfl) ?_
      refine va_iast hx hb hK hP hD hS 9 0 rfl rfl (rg_in g21824 (by decide) (by decide)) dX12_paint_29 (fun H locs hP hD hS => ?_)
      have hP : va_P D cls (wM cI b (mkM l_m l_z l_tp l_hs l_to l_tk l_wo (upd l_so x0.toNatClampNeg x1) l_sz l_kp) v) H := hP
      have hD : va_D A (wM cI b (mkM l_m l_z l_tp l_hs l_to l_tk l_wo (upd l_so x0.toNatClampNeg x1) l_sz l_kp) v) := hD
      refine lv_aload_n hx hb dX12_paint_30 rfl (lv_at hl 0 rfl) ?_
      refine va_get (D := D) (ci := 12) (v := .ref (b 10)) (C := RX12) (T := TX12) (N := 24) hx hb hts hin12 hown hK hP 0 rfl rfl 17 (by decide) (hts (.fieldLink RX12 41 "MissedPointsModel" "size" "[I") (by decide +kernel)) (fun _ h9 => h9) rfl dX12_paint_31 ?_
      refine lv_iload_n hx hb dX12_paint_34 rfl (lv_at hl 1 rfl) ?_
      refine lv_aload_n hx hb dX12_paint_35 rfl (lv_at hl 0 rfl) ?_
      refine va_get (D := D) (ci := 12) (v := .int l_m) (C := RX12) (T := TX12) (N := 24) hx hb hts hin12 hown hK hP 0 rfl rfl 0 (by decide) (hts (.fieldLink RX12 63 "MissedPointsModel" "many" "I") (by decide +kernel)) (fun _ h9 => h9) rfl dX12_paint_36 ?_
      refine va_iast hx hb hK hP hD hS 10 0 rfl rfl (rg_in g21824 (by decide) (by decide)) dX12_paint_39 (fun H locs hP hD hS => ?_)
      have hP : va_P D cls (wM cI b (mkM l_m l_z l_tp l_hs l_to l_tk l_wo (upd l_so x0.toNatClampNeg x1) (upd l_sz x0.toNatClampNeg l_m) l_kp) v) H := hP
      have hD : va_D A (wM cI b (mkM l_m l_z l_tp l_hs l_to l_tk l_wo (upd l_so x0.toNatClampNeg x1) (upd l_sz x0.toNatClampNeg l_m) l_kp) v) := hD
      refine lv_iconst (v := 0) hx hb dX12_paint_40 (by decide) ?_
      refine lv_istore_n (lv' := [(3, .int 0), (0, .ref (b 0)), (1, .int x0), (2, .int x1)]) hx hb dX12_paint_41 rfl hl (by decide) rfl (fun ls hl => ?_)
      exact lp42 41 (0 : Int32) v _ _ ls g21824 (by decide : Rg 0 40 (0 : Int32)) (ar_upd p_so (show Rg (-1) 1 x1 from rg_w g21829 (by decide) (by decide))) (ar_upd p_sz (show Rg 0 40 l_m from rg_w p_m (by decide) (by decide))) (show (0 ≤ x1.toInt ∧ x1.toInt ≤ 1 ∧ 0 ≤ x0.toInt ∧ x0.toInt ≤ 3) from by have y90 : ¬ r21820.toInt = (0 : Int32).toInt := fun z => c21821 (Int32.toInt_inj.mp z); have y91 : ¬ r21826.toInt = (0 : Int32).toInt := fun z => c21827 (Int32.toInt_inj.mp z); have y92 : Rg 0 3 x0 := g21824; have y93 : Rg 1 1 r21820 := g21825; have y94 : Rg 0 1 x1 := g21829; have y95 : Rg 1 1 r21826 := g21830; have y96 : Rg 0 3 x0 := g21824; have y97 : Rg 0 1 x1 := g21829; have y98 : Rg 0 12 l_m := p_m; have y99 : Rg 0 120 l_tp := p_tp; have y910 : Rg 0 120 l_to := p_to; have y9c11 : (0 : Int32).toInt = 0 := (by decide); have y9c12 : (1 : Int32).toInt = 1 := (by decide); omega) hV hP hD hS (lv_sub (l' := [(0, .ref (b 0)), (1, .int x0), (3, .int 0)]) hl [1, 2, 0] rfl) (me_i (by decide : Rg 0 40 (0 : Int32)) (by decide))
    · have zt21832 : (x1.toInt < (0 : Int32).toInt ∨ (1 : Int32).toInt < x1.toInt) := hr21826.2.1 c21827
      have g21833 : Rg 0 0 r21826 := wk_eql hr21826.1 (by decide : Rg 0 0 (0 : Int32)) c21827 (by decide)
      refine lv_bipush (v := (-2)) hx hb dX12_paint_16 (by decide) ?_
      subst hAe
      exact W.iret (v := (-2)) hx hb hr (fun t ht hW => ⟨⟨_, (l_so, l_sz, v), rfl, ⟨hV, (by decide : Rg (-2) 12 ((-2) : Int32)), p_so, p_sz, (show (x0.toInt < 0 ∨ 3 < x0.toInt ∨ x1.toInt < 0 ∨ 1 < x1.toInt → ((-2) : Int32).toInt = -2) ∧ (0 ≤ x0.toInt → x0.toInt ≤ 3 → 0 ≤ x1.toInt → x1.toInt ≤ 1 → ((-2) : Int32).toInt = l_m.toInt) from by have y90 : ¬ r21820.toInt = (0 : Int32).toInt := fun z => c21821 (Int32.toInt_inj.mp z); have y91 : r21826.toInt = (0 : Int32).toInt := congrArg Int32.toInt c21827; have y92 : Rg 0 3 x0 := g21824; have y93 : Rg 1 1 r21820 := g21825; have y94 : Rg 0 0 r21826 := g21833; have y95 : Rg 0 3 x0 := g21824; have y96 : Rg 0 12 l_m := p_m; have y97 : Rg 0 120 l_tp := p_tp; have y98 : Rg 0 120 l_to := p_to; have y9c9 : ((-2) : Int32).toInt = -2 := (by decide); have y9c10 : (0 : Int32).toInt = 0 := (by decide); have y9c11 : (1 : Int32).toInt = 1 := (by decide); omega), ⟨fun _ => ⟨rfl, rfl⟩, fun h9 => absurd (by decide) h9⟩⟩, by rw [ht]; exact hP, hD⟩, hS.F ht⟩) hS.2.2 dX12_paint_18
set_option maxHeartbeats 4000000 in
set_option maxRecDepth 100000 in
theorem w_X12_times (l : Launch) (D : va_G) (cI cS : ClassId) (sz : Nat) (b : Nat → Nat) (l_m l_z l_tp l_hs l_to l_tk l_wo : Int32) (l_so l_sz l_kp : Nat → Int32) (v0 : SU) (hL : TyL (mkM l_m l_z l_tp l_hs l_to l_tk l_wo l_so l_sz l_kp)) (hV : TyV v0) (x0 x1 x2 x3 : Int32) : Met l yX12_times wsX12_times ({ frames := 5, cells := 0, slots := 0, locals := 200 }) (PQ D cI cS (wM cI b (mkM l_m l_z l_tp l_hs l_to l_tk l_wo l_so l_sz l_kp) v0) sz [.ref (b 0), .int x0, .int x1, .int x2, .int x3]) (QF (S := Int32 × Int32 × (Nat → Int32) × SU) D (wM cI b (mkM l_m l_z l_tp l_hs l_to l_tk l_wo l_so l_sz l_kp) v0) (fun q => wM cI b (mkM q.1 q.2.1 l_tp l_hs l_to l_tk l_wo l_so l_sz q.2.2.1) q.2.2.2) sz (fun r q => TyV q.2.2.2 ∧ Rg (-2147483648) 2147483647 r ∧ Rg 0 12 q.1 ∧ Kp q.2.2.1 ∧ (q.1.toInt = l_m.toInt ∧ q.2.1.toInt = l_z.toInt ∧ (q.2.2.1 0).toInt = (l_kp 0).toInt ∧ (q.2.2.1 1).toInt = (l_kp 1).toInt))) 0 0 (va_A (wM cI b (mkM l_m l_z l_tp l_hs l_to l_tk l_wo l_so l_sz l_kp) v0) sz) := by
  refine Met.ofW (cc := cX12_times) (maxL := 7) (ret := (some .int)) (by decide) rfl ?_
  intro p e s m args below meth c s₁ B hml hv
  obtain ⟨rfl, hsz, hP, hKK, hD0⟩ := hv
  have hx := B.exec
  have hb := B.bytes
  have hr := B.returns
  have hts := atoms_spec (ws := wsX12_times) B.pre
  have hown : s.vm.findClass RX12 = some m.cls := findClass_of_methodNamed B.named
  have hlocks := B.notSynchronized
  have hK := hKK.1
  subst hsz
  have hD := hD0.self (sz := s.heap.size)
  obtain ⟨A, hAe⟩ : ∃ A, A = va_A (wM cI b (mkM l_m l_z l_tp l_hs l_to l_tk l_wo l_so l_sz l_kp) v0) s.heap.size := ⟨_, rfl⟩
  rw [← hAe] at hD
  have hA : ∀ q : Nat, s.heap.size ≤ q → A q := fun q h => by rw [hAe]; exact Or.inr h
  have hS : va_S A s.heap s.heap [] := va_S.rf
  have hl := lv_entry ([.ref (b 0), .int x0, .int x1, .int x2, .int x3]) (n := 7) (Nat.le_of_ble_eq_true rfl)
  rw [lg_entry_eq]
  generalize (lg_sl ([.ref (b 0), .int x0, .int x1, .int x2, .int x3]) ++ List.replicate (7 - (lg_sl ([.ref (b 0), .int x0, .int x1, .int x2, .int x3])).length) Slot.unset).toArray = ls at hl ⊢
  have hl : lv_has ls 7 [(0, .ref (b 0)), (1, .int x0), (2, .int x1), (3, .int x2), (4, .int x3)] := hl
  obtain ⟨v, hv9⟩ : ∃ v : SU, v = v0 := ⟨_, rfl⟩
  rw [← hv9] at hP hD hV
  have p_m : Rg 0 12 l_m := hL.1
  have p_tp : Rg 0 120 l_tp := hL.2.1
  have p_so : Ar (-1) 1 l_so := hL.2.2.1
  have p_sz : Ar 0 40 l_sz := hL.2.2.2.1
  have p_kp : Kp l_kp := hL.2.2.2.2.1
  have p_to : Rg 0 120 l_to := hL.2.2.2.2.2
  have lp55 : ∀ (n55 : Nat) (y55_l5 : Int32) (y55_l6 : Int32) (y55_km : Int32) (y55_kz : Int32) (y55_kkp : Nat → Int32) (v : SU) (H : Heap) (locs : List Loc) (ls : Array Slot), Rg 1 20 x0 → Rg 0 12 x1 → Rg 0 10 x2 → Rg 0 12 x3 → Rg 0 20 y55_l6 → Rg 0 12 y55_km → Kp y55_kkp → ((y55_kkp 14).toInt = l_m.toInt ∧ (y55_kkp 15).toInt = l_z.toInt ∧ (y55_kkp 0).toInt = (l_kp 0).toInt ∧ (y55_kkp 1).toInt = (l_kp 1).toInt) → TyV v → va_P D cls (wM cI b (mkM y55_km y55_kz l_tp l_hs l_to l_tk l_wo l_so l_sz y55_kkp) v) H → va_D A (wM cI b (mkM y55_km y55_kz l_tp l_hs l_to l_tk l_wo l_so l_sz y55_kkp) v) → va_S A s.heap H locs → lv_has ls 7 [(0, .ref (b 0)), (1, .int x0), (2, .int x1), (3, .int x2), (4, .int x3), (5, .int y55_l5), (6, .int y55_l6)] → 20 - y55_l6.toInt < (n55 : Int) → W p l e (headSpec wsX12_times ({ frames := 5, cells := 0, slots := 0, locals := 200 })).room s m ([.ref (b 0), .int x0, .int x1, .int x2, .int x3]).toArray below meth c H locs 0 0 (MQ below (QF (S := Int32 × Int32 × (Nat → Int32) × SU) D (wM cI b (mkM l_m l_z l_tp l_hs l_to l_tk l_wo l_so l_sz l_kp) v0) (fun q => wM cI b (mkM q.1 q.2.1 l_tp l_hs l_to l_tk l_wo l_so l_sz q.2.2.1) q.2.2.2) s.heap.size (fun r q => TyV q.2.2.2 ∧ Rg (-2147483648) 2147483647 r ∧ Rg 0 12 q.1 ∧ Kp q.2.2.1 ∧ (q.1.toInt = l_m.toInt ∧ q.2.1.toInt = l_z.toInt ∧ (q.2.2.1 0).toInt = (l_kp 0).toInt ∧ (q.2.2.1 1).toInt = (l_kp 1).toInt))) ([.ref (b 0), .int x0, .int x1, .int x2, .int x3]).toArray s 0 0 (va_A (wM cI b (mkM l_m l_z l_tp l_hs l_to l_tk l_wo l_so l_sz l_kp) v0) s.heap.size)) (F0 m 55 ls []) := by
    intro n55
    induction n55 with
    | zero =>
      intro y55_l5 y55_l6 y55_km y55_kz y55_kkp v H locs ls g55_l1 g55_l2 g55_l3 g55_l4 g55_l6 g55_km g55_kkp x55_0 hV hP hD hS hl hm55
      exact absurd rfl (me_z g55_l6 hm55)
    | succ n55 ih55 =>
      intro y55_l5 y55_l6 y55_km y55_kz y55_kkp v H locs ls g55_l1 g55_l2 g55_l3 g55_l4 g55_l6 g55_km g55_kkp x55_0 hV hP hD hS hl hm55
      refine lv_iload hx hb dX12_times_55 (lv_at hl 6 rfl) ?_
      refine lv_iload_n hx hb dX12_times_57 rfl (lv_at hl 1 rfl) ?_
      refine lv_icmp_ge (tgt := 92) hx hb dX12_times_58 (by decide) (fun c23287 => ?_) (fun c23287 => ?_)
      · have g23288 : Rg 1 20 y55_l6 := rg_ler g55_l1 g55_l6 c23287 (by decide)
        refine lv_aload_n hx hb dX12_times_92 rfl (lv_at hl 0 rfl) ?_
        refine lv_iconst (v := 1) hx hb dX12_times_93 (by decide) ?_
        refine wk_qv (S := Int32 × Int32 × SU) (fun q => wM cI b (mkM q.1 q.2.1 l_tp l_hs l_to l_tk l_wo l_so l_sz y55_kkp) q.2.2) (y55_km, y55_kz, v) (As := [.int 1]) (rest := []) ⟨hx, hb, hml, hown, hts⟩ (w_X12_putsBack_1 l D cI cS _ b y55_km y55_kz l_tp l_hs l_to l_tk l_wo l_so l_sz y55_kkp v (show TyL (mkM y55_km y55_kz l_tp l_hs l_to l_tk l_wo l_so l_sz y55_kkp) from ⟨g55_km, p_tp, p_so, p_sz, g55_kkp, p_to⟩) hV) hKK hP hD hS hA 0 (ci := 12) rfl rfl (cwV 1 hts gX12_times_X12_putsBack rfl rfl rfl (by decide +kernel) ⟨Nat.le_of_ble_eq_true rfl, Nat.le_of_ble_eq_true rfl⟩) rfl hl.1 rfl (Nat.le_of_ble_eq_true rfl) dX12_times_94 ⟨Nat.le_of_ble_eq_true rfl, Nat.le_of_ble_eq_true rfl⟩ (fun q9 H locs hr23289 hP hD hS => ?_)
        obtain ⟨r23290, r23291, v⟩ := q9
        have hr23289 : TyV v ∧ Rg 0 12 r23290 ∧ (r23290.toInt = (y55_kkp 14).toInt ∧ r23291.toInt = (y55_kkp 15).toInt) := hr23289
        have hV := hr23289.1
        have hP : va_P D cls (wM cI b (mkM r23290 r23291 l_tp l_hs l_to l_tk l_wo l_so l_sz y55_kkp) v) H := hP
        have hD : va_D A (wM cI b (mkM r23290 r23291 l_tp l_hs l_to l_tk l_wo l_so l_sz y55_kkp) v) := hD
        have kr23289_0 := hr23289.2.2
        refine lv_iload hx hb dX12_times_97 (lv_at hl 5 rfl) ?_
        subst hAe
        exact W.iret (v := y55_l5) hx hb hr (fun t ht hW => ⟨⟨_, (r23290, r23291, y55_kkp, v), rfl, ⟨hV, (rg_any y55_l5), hr23289.2.1, g55_kkp, (show r23290.toInt = l_m.toInt ∧ r23291.toInt = l_z.toInt ∧ (y55_kkp 0).toInt = (l_kp 0).toInt ∧ (y55_kkp 1).toInt = (l_kp 1).toInt from by have y90 : x0.toInt ≤ y55_l6.toInt := (lz_le _ _).mp c23287; have y91 : Rg 1 20 y55_l6 := g23288; have y92 : Rg 1 20 x0 := g55_l1; have y93 : Rg 0 12 x1 := g55_l2; have y94 : Rg 0 10 x2 := g55_l3; have y95 : Rg 0 12 x3 := g55_l4; have y96 : Rg 1 20 y55_l6 := g23288; have y97 : Rg 0 12 r23290 := hr23289.2.1; have y98 : Rg 0 120 l_tp := p_tp; have y99 : Rg 0 120 l_to := p_to; have y9c10 : (0 : Int32).toInt = 0 := (by decide); have y9c11 : (1 : Int32).toInt = 1 := (by decide); omega)⟩, by rw [ht]; exact hP, hD⟩, hS.F ht⟩) hS.2.2 dX12_times_99
      · have g23292 : Rg 0 19 y55_l6 := rg_ltl g55_l6 g55_l1 (rg_nle c23287) (by decide)
        refine lv_aload_n hx hb dX12_times_61 rfl (lv_at hl 0 rfl) ?_
        refine lv_iload_n hx hb dX12_times_62 rfl (lv_at hl 2 rfl) ?_
        refine lv_iload_n hx hb dX12_times_63 rfl (lv_at hl 3 rfl) ?_
        refine wk_qv (S := Int32 × Int32 × SU) (fun q => wM cI b (mkM q.1 q.2.1 l_tp l_hs l_to l_tk l_wo l_so l_sz y55_kkp) q.2.2) (y55_km, y55_kz, v) (As := [.int x1, .int x2]) (rest := []) ⟨hx, hb, hml, hown, hts⟩ (w_X12_deals l D cI cS _ b y55_km y55_kz l_tp l_hs l_to l_tk l_wo l_so l_sz y55_kkp v (show TyL (mkM y55_km y55_kz l_tp l_hs l_to l_tk l_wo l_so l_sz y55_kkp) from ⟨g55_km, p_tp, p_so, p_sz, g55_kkp, p_to⟩) hV x1 x2 g55_l2) hKK hP hD hS hA 0 (ci := 12) rfl rfl (cwV 2 hts gX12_times_X12_deals rfl rfl rfl (by decide +kernel) ⟨Nat.le_of_ble_eq_true rfl, Nat.le_of_ble_eq_true rfl⟩) rfl hl.1 rfl (Nat.le_of_ble_eq_true rfl) dX12_times_64 ⟨Nat.le_of_ble_eq_true rfl, Nat.le_of_ble_eq_true rfl⟩ (fun q9 H locs hr23293 hP hD hS => ?_)
        obtain ⟨r23294, r23295, v⟩ := q9
        have hr23293 : TyV v ∧ Rg 0 12 r23294 ∧ (r23294.toInt = x1.toInt) ∧ (r23295.toInt = (zout x1.toNatClampNeg y55_kz x1.toNatClampNeg).toInt) := hr23293
        have hV := hr23293.1
        have hP : va_P D cls (wM cI b (mkM r23294 r23295 l_tp l_hs l_to l_tk l_wo l_so l_sz y55_kkp) v) H := hP
        have hD : va_D A (wM cI b (mkM r23294 r23295 l_tp l_hs l_to l_tk l_wo l_so l_sz y55_kkp) v) := hD
        have kr23293_0 := hr23293.2.2.1
        have kr23293_1 := hr23293.2.2.2
        refine lv_iload hx hb dX12_times_67 (lv_at hl 5 rfl) ?_
        refine lv_aload_n hx hb dX12_times_69 rfl (lv_at hl 0 rfl) ?_
        refine wk_qi (wM cI b (mkM r23294 r23295 l_tp l_hs l_to l_tk l_wo l_so l_sz y55_kkp)) v (As := []) (rest := [.int y55_l5]) ⟨hx, hb, hml, hown, hts⟩ (w_X12_lack l D cI cS _ b (mkM r23294 r23295 l_tp l_hs l_to l_tk l_wo l_so l_sz y55_kkp) v (show TyL (mkM r23294 r23295 l_tp l_hs l_to l_tk l_wo l_so l_sz y55_kkp) from ⟨hr23293.2.1, p_tp, p_so, p_sz, g55_kkp, p_to⟩) hV) hKK hP hD hS hA 0 (ci := 12) rfl rfl (cwV 0 hts gX12_times_X12_lack rfl rfl rfl (by decide +kernel) ⟨Nat.le_of_ble_eq_true rfl, Nat.le_of_ble_eq_true rfl⟩) rfl hl.1 rfl (Nat.le_of_ble_eq_true rfl) dX12_times_70 ⟨Nat.le_of_ble_eq_true rfl, Nat.le_of_ble_eq_true rfl⟩ (fun r23296 v H locs hr23296 hP hD hS => ?_)
        have hV := hr23296.1
        refine lv_iload hx hb dX12_times_73 (lv_at hl 4 rfl) ?_
        refine lv_icmp_ne (tgt := 82) hx hb dX12_times_75 (by decide) (fun c23297 => ?_) (fun c23297 => ?_)
        · refine lv_iconst (v := 0) hx hb dX12_times_82 (by decide) ?_
          refine wk_iadd (e1 := (-2147483648)) (f := 2147483647) hx hb dX12_times_83 (rg_any y55_l5) (by decide : Rg 0 0 (0 : Int32)) (by decide) (fun r23298 hr23298 er23298 qr23298 => ?_)
          refine lv_istore (lv' := [(5, .int r23298), (0, .ref (b 0)), (1, .int x0), (2, .int x1), (3, .int x2), (4, .int x3), (6, .int y55_l6)]) hx hb dX12_times_84 hl (by decide) rfl (fun ls hl => ?_)
          refine wk_iinc (lv' := fun r => [(6, .int r), (5, .int r23298), (0, .ref (b 0)), (1, .int x0), (2, .int x1), (3, .int x2), (4, .int x3)]) (e1 := 1) (f := 20) hx hb dX12_times_86 hl (k := 6) rfl (by decide) g23292 (by decide) (fun _ => rfl) (fun r23299 ls hr23299 er23299 hl => ?_)
          refine lv_goto (tgt := 55) hx hb dX12_times_89 (by decide) ?_
          exact ih55 r23298 r23299 r23294 r23295 y55_kkp v _ _ ls g55_l1 g55_l2 g55_l3 g55_l4 (show Rg 0 20 r23299 from rg_w hr23299 (by decide) (by decide)) hr23293.2.1 g55_kkp (show ((y55_kkp 14).toInt = l_m.toInt ∧ (y55_kkp 15).toInt = l_z.toInt ∧ (y55_kkp 0).toInt = (l_kp 0).toInt ∧ (y55_kkp 1).toInt = (l_kp 1).toInt) from by have y90 : y55_l6.toInt < x0.toInt := (lz_lt _ _).mp (rg_nle c23287); have y91 : ¬ r23296.toInt = x3.toInt := fun z => c23297 (Int32.toInt_inj.mp z); have y92 : Rg 0 19 y55_l6 := g23292; have y93 : Rg 1 20 x0 := g55_l1; have y94 : Rg 0 12 x1 := g55_l2; have y95 : Rg 0 10 x2 := g55_l3; have y96 : Rg 0 12 x3 := g55_l4; have y97 : Rg (-2147483648) 2147483647 r23298 := hr23298; have y98 : Rg 1 20 r23299 := hr23299; have y99 : Rg 0 12 r23294 := hr23293.2.1; have y910 : Rg 0 120 l_tp := p_tp; have y911 : Rg 0 120 l_to := p_to; have y9c12 : (0 : Int32).toInt = 0 := (by decide); have y9c13 : (1 : Int32).toInt = 1 := (by decide); omega) hV hP hD hS (lv_sub (l' := [(0, .ref (b 0)), (1, .int x0), (2, .int x1), (3, .int x2), (4, .int x3), (5, .int r23298), (6, .int r23299)]) hl [2, 3, 4, 5, 6, 1, 0] rfl) (me_up hm55 er23299 (by decide))
        · have g23300 : Rg 0 12 r23296 := wk_eql hr23296.2.1 g55_l4 c23297 (by decide)
          refine lv_iconst (v := 1) hx hb dX12_times_78 (by decide) ?_
          refine lv_goto (tgt := 83) hx hb dX12_times_79 (by decide) ?_
          refine lv_iadd hx hb dX12_times_83 ?_
          refine wk_topP (P := fun r => r = y55_l5 + (1 : Int32)) rfl (fun r23301 qr23301 => ?_)
          refine lv_istore (lv' := [(5, .int r23301), (0, .ref (b 0)), (1, .int x0), (2, .int x1), (3, .int x2), (4, .int x3), (6, .int y55_l6)]) hx hb dX12_times_84 hl (by decide) rfl (fun ls hl => ?_)
          refine wk_iinc (lv' := fun r => [(6, .int r), (5, .int r23301), (0, .ref (b 0)), (1, .int x0), (2, .int x1), (3, .int x2), (4, .int x3)]) (e1 := 1) (f := 20) hx hb dX12_times_86 hl (k := 6) rfl (by decide) g23292 (by decide) (fun _ => rfl) (fun r23302 ls hr23302 er23302 hl => ?_)
          refine lv_goto (tgt := 55) hx hb dX12_times_89 (by decide) ?_
          exact ih55 r23301 r23302 r23294 r23295 y55_kkp v _ _ ls g55_l1 g55_l2 g55_l3 g55_l4 (show Rg 0 20 r23302 from rg_w hr23302 (by decide) (by decide)) hr23293.2.1 g55_kkp (show ((y55_kkp 14).toInt = l_m.toInt ∧ (y55_kkp 15).toInt = l_z.toInt ∧ (y55_kkp 0).toInt = (l_kp 0).toInt ∧ (y55_kkp 1).toInt = (l_kp 1).toInt) from by have y90 : y55_l6.toInt < x0.toInt := (lz_lt _ _).mp (rg_nle c23287); have y91 : r23296.toInt = x3.toInt := congrArg Int32.toInt c23297; have y92 : Rg 0 19 y55_l6 := g23292; have y93 : Rg 0 12 r23296 := g23300; have y94 : Rg 1 20 x0 := g55_l1; have y95 : Rg 0 12 x1 := g55_l2; have y96 : Rg 0 10 x2 := g55_l3; have y97 : Rg 0 12 x3 := g55_l4; have y98 : Rg 1 20 r23302 := hr23302; have y99 : Rg 0 12 r23294 := hr23293.2.1; have y910 : Rg 0 120 l_tp := p_tp; have y911 : Rg 0 120 l_to := p_to; have y9c12 : (0 : Int32).toInt = 0 := (by decide); have y9c13 : (1 : Int32).toInt = 1 := (by decide); omega) hV hP hD hS (lv_sub (l' := [(0, .ref (b 0)), (1, .int x0), (2, .int x1), (3, .int x2), (4, .int x3), (5, .int r23301), (6, .int r23302)]) hl [2, 3, 4, 5, 6, 1, 0] rfl) (me_up hm55 er23302 (by decide))
  refine lv_iload_n hx hb dX12_times_0 rfl (lv_at hl 1 rfl) ?_
  refine lv_iconst (v := 1) hx hb dX12_times_1 (by decide) ?_
  refine lv_bipush (v := 20) hx hb dX12_times_2 (by decide) ?_
  refine lz_ss (As := [.int x0, .int 1, .int 20]) (rest := []) ⟨hx, hb, hml, hown, hts⟩ (w_X12_in l D cI cS x0 (1 : Int32) (20 : Int32)) hKK (hP.sub (ws' := []) [] rfl) (va_cwS 3 hts gX12_times_X12_in rfl rfl rfl (by decide +kernel) ⟨Nat.le_of_ble_eq_true rfl, Nat.le_of_ble_eq_true rfl⟩) rfl hl.1 rfl (Nat.le_of_ble_eq_true rfl) dX12_times_4 ⟨Nat.le_of_ble_eq_true rfl, Nat.le_of_ble_eq_true rfl⟩ (fun r23303 hr23303 => ?_)
  refine lv_if_eq (tgt := 41) hx hb dX12_times_7 (by decide) (fun c23304 => ?_) (fun c23304 => ?_)
  · have zt23305 : (x0.toInt < (1 : Int32).toInt ∨ (20 : Int32).toInt < x0.toInt) := hr23303.2.1 c23304
    have g23306 : Rg 0 0 r23303 := wk_eql hr23303.1 (by decide : Rg 0 0 (0 : Int32)) c23304 (by decide)
    refine lv_bipush (v := (-2)) hx hb dX12_times_41 (by decide) ?_
    subst hAe
    exact W.iret (v := (-2)) hx hb hr (fun t ht hW => ⟨⟨_, (l_m, l_z, l_kp, v), rfl, ⟨hV, (by decide : Rg (-2147483648) 2147483647 ((-2) : Int32)), p_m, p_kp, (show l_m.toInt = l_m.toInt ∧ l_z.toInt = l_z.toInt ∧ (l_kp 0).toInt = (l_kp 0).toInt ∧ (l_kp 1).toInt = (l_kp 1).toInt from by have y90 : r23303.toInt = (0 : Int32).toInt := congrArg Int32.toInt c23304; have y91 : Rg 0 0 r23303 := g23306; have y92 : Rg 0 12 l_m := p_m; have y93 : Rg 0 120 l_tp := p_tp; have y94 : Rg 0 120 l_to := p_to; have y9c5 : ((-2) : Int32).toInt = -2 := (by decide); have y9c6 : (0 : Int32).toInt = 0 := (by decide); have y9c7 : (1 : Int32).toInt = 1 := (by decide); have y9c8 : (20 : Int32).toInt = 20 := (by decide); omega)⟩, by rw [ht]; exact hP, hD⟩, hS.F ht⟩) hS.2.2 dX12_times_43
  · have zn23307 : (1 : Int32).toInt ≤ x0.toInt ∧ x0.toInt ≤ (20 : Int32).toInt := (hr23303.2.2 c23304)
    have g23308 : Rg 1 20 x0 := wk_in3 (rg_any x0) (by decide : Rg 1 1 (1 : Int32)) (by decide : Rg 20 20 (20 : Int32)) (hr23303.2.2 c23304) (by decide)
    have g23309 : Rg 1 1 r23303 := rg_ne_lo (k := 0) hr23303.1 (by decide) c23304 (by decide)
    refine lv_iload_n hx hb dX12_times_10 rfl (lv_at hl 2 rfl) ?_
    refine lv_iconst (v := 0) hx hb dX12_times_11 (by decide) ?_
    refine lv_bipush (v := 12) hx hb dX12_times_12 (by decide) ?_
    refine lz_ss (As := [.int x1, .int 0, .int 12]) (rest := []) ⟨hx, hb, hml, hown, hts⟩ (w_X12_in l D cI cS x1 (0 : Int32) (12 : Int32)) hKK (hP.sub (ws' := []) [] rfl) (va_cwS 3 hts gX12_times_X12_in rfl rfl rfl (by decide +kernel) ⟨Nat.le_of_ble_eq_true rfl, Nat.le_of_ble_eq_true rfl⟩) rfl hl.1 rfl (Nat.le_of_ble_eq_true rfl) dX12_times_14 ⟨Nat.le_of_ble_eq_true rfl, Nat.le_of_ble_eq_true rfl⟩ (fun r23310 hr23310 => ?_)
    refine lv_if_eq (tgt := 41) hx hb dX12_times_17 (by decide) (fun c23311 => ?_) (fun c23311 => ?_)
    · have zt23312 : (x1.toInt < (0 : Int32).toInt ∨ (12 : Int32).toInt < x1.toInt) := hr23310.2.1 c23311
      have g23313 : Rg 0 0 r23310 := wk_eql hr23310.1 (by decide : Rg 0 0 (0 : Int32)) c23311 (by decide)
      refine lv_bipush (v := (-2)) hx hb dX12_times_41 (by decide) ?_
      subst hAe
      exact W.iret (v := (-2)) hx hb hr (fun t ht hW => ⟨⟨_, (l_m, l_z, l_kp, v), rfl, ⟨hV, (by decide : Rg (-2147483648) 2147483647 ((-2) : Int32)), p_m, p_kp, (show l_m.toInt = l_m.toInt ∧ l_z.toInt = l_z.toInt ∧ (l_kp 0).toInt = (l_kp 0).toInt ∧ (l_kp 1).toInt = (l_kp 1).toInt from by have y90 : ¬ r23303.toInt = (0 : Int32).toInt := fun z => c23304 (Int32.toInt_inj.mp z); have y91 : r23310.toInt = (0 : Int32).toInt := congrArg Int32.toInt c23311; have y92 : Rg 1 20 x0 := g23308; have y93 : Rg 1 1 r23303 := g23309; have y94 : Rg 0 0 r23310 := g23313; have y95 : Rg 1 20 x0 := g23308; have y96 : Rg 0 12 l_m := p_m; have y97 : Rg 0 120 l_tp := p_tp; have y98 : Rg 0 120 l_to := p_to; have y9c9 : ((-2) : Int32).toInt = -2 := (by decide); have y9c10 : (0 : Int32).toInt = 0 := (by decide); have y9c11 : (1 : Int32).toInt = 1 := (by decide); have y9c12 : (12 : Int32).toInt = 12 := (by decide); have y9c13 : (20 : Int32).toInt = 20 := (by decide); omega)⟩, by rw [ht]; exact hP, hD⟩, hS.F ht⟩) hS.2.2 dX12_times_43
    · have zn23314 : (0 : Int32).toInt ≤ x1.toInt ∧ x1.toInt ≤ (12 : Int32).toInt := (hr23310.2.2 c23311)
      have g23315 : Rg 0 12 x1 := wk_in3 (rg_any x1) (by decide : Rg 0 0 (0 : Int32)) (by decide : Rg 12 12 (12 : Int32)) (hr23310.2.2 c23311) (by decide)
      have g23316 : Rg 1 1 r23310 := rg_ne_lo (k := 0) hr23310.1 (by decide) c23311 (by decide)
      refine lv_iload_n hx hb dX12_times_20 rfl (lv_at hl 3 rfl) ?_
      refine lv_iconst (v := 0) hx hb dX12_times_21 (by decide) ?_
      refine lv_bipush (v := 10) hx hb dX12_times_22 (by decide) ?_
      refine lz_ss (As := [.int x2, .int 0, .int 10]) (rest := []) ⟨hx, hb, hml, hown, hts⟩ (w_X12_in l D cI cS x2 (0 : Int32) (10 : Int32)) hKK (hP.sub (ws' := []) [] rfl) (va_cwS 3 hts gX12_times_X12_in rfl rfl rfl (by decide +kernel) ⟨Nat.le_of_ble_eq_true rfl, Nat.le_of_ble_eq_true rfl⟩) rfl hl.1 rfl (Nat.le_of_ble_eq_true rfl) dX12_times_24 ⟨Nat.le_of_ble_eq_true rfl, Nat.le_of_ble_eq_true rfl⟩ (fun r23317 hr23317 => ?_)
      refine lv_if_eq (tgt := 41) hx hb dX12_times_27 (by decide) (fun c23318 => ?_) (fun c23318 => ?_)
      · have zt23319 : (x2.toInt < (0 : Int32).toInt ∨ (10 : Int32).toInt < x2.toInt) := hr23317.2.1 c23318
        have g23320 : Rg 0 0 r23317 := wk_eql hr23317.1 (by decide : Rg 0 0 (0 : Int32)) c23318 (by decide)
        refine lv_bipush (v := (-2)) hx hb dX12_times_41 (by decide) ?_
        subst hAe
        exact W.iret (v := (-2)) hx hb hr (fun t ht hW => ⟨⟨_, (l_m, l_z, l_kp, v), rfl, ⟨hV, (by decide : Rg (-2147483648) 2147483647 ((-2) : Int32)), p_m, p_kp, (show l_m.toInt = l_m.toInt ∧ l_z.toInt = l_z.toInt ∧ (l_kp 0).toInt = (l_kp 0).toInt ∧ (l_kp 1).toInt = (l_kp 1).toInt from by have y90 : ¬ r23303.toInt = (0 : Int32).toInt := fun z => c23304 (Int32.toInt_inj.mp z); have y91 : ¬ r23310.toInt = (0 : Int32).toInt := fun z => c23311 (Int32.toInt_inj.mp z); have y92 : r23317.toInt = (0 : Int32).toInt := congrArg Int32.toInt c23318; have y93 : Rg 1 20 x0 := g23308; have y94 : Rg 1 1 r23303 := g23309; have y95 : Rg 0 12 x1 := g23315; have y96 : Rg 1 1 r23310 := g23316; have y97 : Rg 0 0 r23317 := g23320; have y98 : Rg 1 20 x0 := g23308; have y99 : Rg 0 12 x1 := g23315; have y910 : Rg 0 12 l_m := p_m; have y911 : Rg 0 120 l_tp := p_tp; have y912 : Rg 0 120 l_to := p_to; have y9c13 : ((-2) : Int32).toInt = -2 := (by decide); have y9c14 : (0 : Int32).toInt = 0 := (by decide); have y9c15 : (1 : Int32).toInt = 1 := (by decide); have y9c16 : (10 : Int32).toInt = 10 := (by decide); have y9c17 : (12 : Int32).toInt = 12 := (by decide); have y9c18 : (20 : Int32).toInt = 20 := (by decide); omega)⟩, by rw [ht]; exact hP, hD⟩, hS.F ht⟩) hS.2.2 dX12_times_43
      · have zn23321 : (0 : Int32).toInt ≤ x2.toInt ∧ x2.toInt ≤ (10 : Int32).toInt := (hr23317.2.2 c23318)
        have g23322 : Rg 0 10 x2 := wk_in3 (rg_any x2) (by decide : Rg 0 0 (0 : Int32)) (by decide : Rg 10 10 (10 : Int32)) (hr23317.2.2 c23318) (by decide)
        have g23323 : Rg 1 1 r23317 := rg_ne_lo (k := 0) hr23317.1 (by decide) c23318 (by decide)
        refine lv_iload hx hb dX12_times_30 (lv_at hl 4 rfl) ?_
        refine lv_iconst (v := 0) hx hb dX12_times_32 (by decide) ?_
        refine lv_bipush (v := 12) hx hb dX12_times_33 (by decide) ?_
        refine lz_ss (As := [.int x3, .int 0, .int 12]) (rest := []) ⟨hx, hb, hml, hown, hts⟩ (w_X12_in l D cI cS x3 (0 : Int32) (12 : Int32)) hKK (hP.sub (ws' := []) [] rfl) (va_cwS 3 hts gX12_times_X12_in rfl rfl rfl (by decide +kernel) ⟨Nat.le_of_ble_eq_true rfl, Nat.le_of_ble_eq_true rfl⟩) rfl hl.1 rfl (Nat.le_of_ble_eq_true rfl) dX12_times_35 ⟨Nat.le_of_ble_eq_true rfl, Nat.le_of_ble_eq_true rfl⟩ (fun r23324 hr23324 => ?_)
        refine lv_if_ne (tgt := 44) hx hb dX12_times_38 (by decide) (fun c23325 => ?_) (fun c23325 => ?_)
        · have zn23326 : (0 : Int32).toInt ≤ x3.toInt ∧ x3.toInt ≤ (12 : Int32).toInt := (hr23324.2.2 c23325)
          have g23327 : Rg 0 12 x3 := wk_in3 (rg_any x3) (by decide : Rg 0 0 (0 : Int32)) (by decide : Rg 12 12 (12 : Int32)) (hr23324.2.2 c23325) (by decide)
          have g23328 : Rg 1 1 r23324 := rg_ne_lo (k := 0) hr23324.1 (by decide) c23325 (by decide)
          refine lv_aload_n hx hb dX12_times_44 rfl (lv_at hl 0 rfl) ?_
          refine lv_iconst (v := 1) hx hb dX12_times_45 (by decide) ?_
          refine wk_qv (S := (Nat → Int32) × SU) (fun q => wM cI b (mkM l_m l_z l_tp l_hs l_to l_tk l_wo l_so l_sz q.1) q.2) (l_kp, v) (As := [.int 1]) (rest := []) ⟨hx, hb, hml, hown, hts⟩ (w_X12_keeps_1 l D cI cS _ b l_m l_z l_tp l_hs l_to l_tk l_wo l_so l_sz l_kp v (show TyL (mkM l_m l_z l_tp l_hs l_to l_tk l_wo l_so l_sz l_kp) from ⟨p_m, p_tp, p_so, p_sz, p_kp, p_to⟩) hV) hKK hP hD hS hA 0 (ci := 12) rfl rfl (cwV 1 hts gX12_times_X12_keeps rfl rfl rfl (by decide +kernel) ⟨Nat.le_of_ble_eq_true rfl, Nat.le_of_ble_eq_true rfl⟩) rfl hl.1 rfl (Nat.le_of_ble_eq_true rfl) dX12_times_46 ⟨Nat.le_of_ble_eq_true rfl, Nat.le_of_ble_eq_true rfl⟩ (fun q9 H locs hr23329 hP hD hS => ?_)
          obtain ⟨f23330, v⟩ := q9
          have hr23329 : TyV v ∧ Kp f23330 ∧ ((f23330 14).toInt = l_m.toInt ∧ (f23330 15).toInt = l_z.toInt ∧ (f23330 0).toInt = (l_kp 0).toInt ∧ (f23330 1).toInt = (l_kp 1).toInt) := hr23329
          have hV := hr23329.1
          have hP : va_P D cls (wM cI b (mkM l_m l_z l_tp l_hs l_to l_tk l_wo l_so l_sz f23330) v) H := hP
          have hD : va_D A (wM cI b (mkM l_m l_z l_tp l_hs l_to l_tk l_wo l_so l_sz f23330) v) := hD
          have kr23329_0 := hr23329.2.2
          refine lv_iconst (v := 0) hx hb dX12_times_49 (by decide) ?_
          refine lv_istore (lv' := [(5, .int 0), (0, .ref (b 0)), (1, .int x0), (2, .int x1), (3, .int x2), (4, .int x3)]) hx hb dX12_times_50 hl (by decide) rfl (fun ls hl => ?_)
          refine lv_iconst (v := 0) hx hb dX12_times_52 (by decide) ?_
          refine lv_istore (lv' := [(6, .int 0), (5, .int 0), (0, .ref (b 0)), (1, .int x0), (2, .int x1), (3, .int x2), (4, .int x3)]) hx hb dX12_times_53 hl (by decide) rfl (fun ls hl => ?_)
          exact lp55 21 (0 : Int32) (0 : Int32) l_m l_z f23330 v _ _ ls g23308 g23315 g23322 g23327 (by decide : Rg 0 20 (0 : Int32)) p_m hr23329.2.1 (show ((f23330 14).toInt = l_m.toInt ∧ (f23330 15).toInt = l_z.toInt ∧ (f23330 0).toInt = (l_kp 0).toInt ∧ (f23330 1).toInt = (l_kp 1).toInt) from by have y90 : ¬ r23303.toInt = (0 : Int32).toInt := fun z => c23304 (Int32.toInt_inj.mp z); have y91 : ¬ r23310.toInt = (0 : Int32).toInt := fun z => c23311 (Int32.toInt_inj.mp z); have y92 : ¬ r23317.toInt = (0 : Int32).toInt := fun z => c23318 (Int32.toInt_inj.mp z); have y93 : ¬ r23324.toInt = (0 : Int32).toInt := fun z => c23325 (Int32.toInt_inj.mp z); have y94 : Rg 1 20 x0 := g23308; have y95 : Rg 1 1 r23303 := g23309; have y96 : Rg 0 12 x1 := g23315; have y97 : Rg 1 1 r23310 := g23316; have y98 : Rg 0 10 x2 := g23322; have y99 : Rg 1 1 r23317 := g23323; have y910 : Rg 0 12 x3 := g23327; have y911 : Rg 1 1 r23324 := g23328; have y912 : Rg 1 20 x0 := g23308; have y913 : Rg 0 12 x1 := g23315; have y914 : Rg 0 10 x2 := g23322; have y915 : Rg 0 12 x3 := g23327; have y916 : Rg 0 12 l_m := p_m; have y917 : Rg 0 120 l_tp := p_tp; have y918 : Rg 0 120 l_to := p_to; have y9c19 : (0 : Int32).toInt = 0 := (by decide); have y9c20 : (1 : Int32).toInt = 1 := (by decide); have y9c21 : (10 : Int32).toInt = 10 := (by decide); have y9c22 : (12 : Int32).toInt = 12 := (by decide); have y9c23 : (20 : Int32).toInt = 20 := (by decide); omega) hV hP hD hS (lv_sub (l' := [(0, .ref (b 0)), (1, .int x0), (2, .int x1), (3, .int x2), (4, .int x3), (5, .int 0), (6, .int 0)]) hl [2, 3, 4, 5, 6, 1, 0] rfl) (me_i (by decide : Rg 0 20 (0 : Int32)) (by decide))
        · have zt23331 : (x3.toInt < (0 : Int32).toInt ∨ (12 : Int32).toInt < x3.toInt) := hr23324.2.1 c23325
          have g23332 : Rg 0 0 r23324 := wk_eql hr23324.1 (by decide : Rg 0 0 (0 : Int32)) c23325 (by decide)
          refine lv_bipush (v := (-2)) hx hb dX12_times_41 (by decide) ?_
          subst hAe
          exact W.iret (v := (-2)) hx hb hr (fun t ht hW => ⟨⟨_, (l_m, l_z, l_kp, v), rfl, ⟨hV, (by decide : Rg (-2147483648) 2147483647 ((-2) : Int32)), p_m, p_kp, (show l_m.toInt = l_m.toInt ∧ l_z.toInt = l_z.toInt ∧ (l_kp 0).toInt = (l_kp 0).toInt ∧ (l_kp 1).toInt = (l_kp 1).toInt from by have y90 : ¬ r23303.toInt = (0 : Int32).toInt := fun z => c23304 (Int32.toInt_inj.mp z); have y91 : ¬ r23310.toInt = (0 : Int32).toInt := fun z => c23311 (Int32.toInt_inj.mp z); have y92 : ¬ r23317.toInt = (0 : Int32).toInt := fun z => c23318 (Int32.toInt_inj.mp z); have y93 : r23324.toInt = (0 : Int32).toInt := congrArg Int32.toInt c23325; have y94 : Rg 1 20 x0 := g23308; have y95 : Rg 1 1 r23303 := g23309; have y96 : Rg 0 12 x1 := g23315; have y97 : Rg 1 1 r23310 := g23316; have y98 : Rg 0 10 x2 := g23322; have y99 : Rg 1 1 r23317 := g23323; have y910 : Rg 0 0 r23324 := g23332; have y911 : Rg 1 20 x0 := g23308; have y912 : Rg 0 12 x1 := g23315; have y913 : Rg 0 10 x2 := g23322; have y914 : Rg 0 12 l_m := p_m; have y915 : Rg 0 120 l_tp := p_tp; have y916 : Rg 0 120 l_to := p_to; have y9c17 : ((-2) : Int32).toInt = -2 := (by decide); have y9c18 : (0 : Int32).toInt = 0 := (by decide); have y9c19 : (1 : Int32).toInt = 1 := (by decide); have y9c20 : (10 : Int32).toInt = 10 := (by decide); have y9c21 : (12 : Int32).toInt = 12 := (by decide); have y9c22 : (20 : Int32).toInt = 20 := (by decide); omega)⟩, by rw [ht]; exact hP, hD⟩, hS.F ht⟩) hS.2.2 dX12_times_43
set_option maxRecDepth 20000 in
theorem ggX12_isAt_X12_in : GoodIn wsX12_isAt wsX12_in := goodIn_r _ [7] rfl (by decide +kernel)
set_option maxRecDepth 20000 in
theorem gX12_isAt_X12_in : GoodIn wsX12_isAt (va_wsS RX12 66 yX12_in wsX12_in) := goodIn_app (goodIn_of _ (by decide +kernel)) ggX12_isAt_X12_in
theorem dX12_isAt_11 : decode cX12_isAt 11 = .ok (.aload_n 0, 1) := by decide +kernel
theorem dX12_isAt_12 : decode cX12_isAt 12 = .ok (.getfield 35, 3) := by decide +kernel
theorem dX12_isAt_15 : decode cX12_isAt 15 = .ok (.aload_n 0, 1) := by decide +kernel
theorem dX12_isAt_16 : decode cX12_isAt 16 = .ok (.getfield 169, 3) := by decide +kernel
theorem dX12_isAt_19 : decode cX12_isAt 19 = .ok (.iaload, 1) := by decide +kernel
theorem dX12_isAt_20 : decode cX12_isAt 20 = .ok (.iload_n 1, 1) := by decide +kernel
theorem dX12_isAt_21 : decode cX12_isAt 21 = .ok (.iload_n 2, 1) := by decide +kernel
theorem dX12_isAt_22 : decode cX12_isAt 22 = .ok (.invokestatic 66, 3) := by decide +kernel
theorem dX12_isAt_25 : decode cX12_isAt 25 = .ok (.ifCond .eq 7, 3) := by decide +kernel
theorem dX12_isAt_28 : decode cX12_isAt 28 = .ok (.iconst 1, 1) := by decide +kernel
theorem dX12_isAt_29 : decode cX12_isAt 29 = .ok (.goto 4, 3) := by decide +kernel
set_option maxHeartbeats 4000000 in
set_option maxRecDepth 100000 in
theorem w_X12_isAt (l : Launch) (D : va_G) (cI cS : ClassId) (b : Nat → Nat) (L v : SU) (hL : TyL L) (hV : TyV v) (x0 x1 : Int32) : Met l yX12_isAt wsX12_isAt ({ frames := 1, cells := 0, slots := 0, locals := 40 }) (PS D cI cS (wM cI b L v) [.ref (b 0), .int x0, .int x1]) (vp_Si (fun r => Rg 0 1 r ∧ ((r ≠ 0 → ((L 0 12).toInt < (L 0 10).toInt ∧ x0.toInt ≤ (v 8 (L 0 12).toNatClampNeg).toInt ∧ (v 8 (L 0 12).toNatClampNeg).toInt ≤ x1.toInt)) ∧ (r = 0 → ¬ ((L 0 12).toInt < (L 0 10).toInt ∧ x0.toInt ≤ (v 8 (L 0 12).toNatClampNeg).toInt ∧ (v 8 (L 0 12).toNatClampNeg).toInt ≤ x1.toInt))))) 0 0 (fun _ => False) := by
  refine Met.ofW (cc := cX12_isAt) (maxL := 3) (ret := (some .boolean)) (by decide) rfl ?_
  intro p e s m args below meth c s₁ B hml hv
  obtain ⟨rfl, hP, hKK⟩ := hv
  have hx := B.exec
  have hb := B.bytes
  have hr := B.returns
  have hts := atoms_spec (ws := wsX12_isAt) B.pre
  have hown : s.vm.findClass RX12 = some m.cls := findClass_of_methodNamed B.named
  have hlocks := B.notSynchronized
  have hK := hKK.1
  have hin12 : ∀ w ∈ wsX120, w ∈ wsX12_isAt := by decide +kernel
  have hl := lv_entry ([.ref (b 0), .int x0, .int x1]) (n := 3) (Nat.le_of_ble_eq_true rfl)
  rw [lg_entry_eq]
  generalize (lg_sl ([.ref (b 0), .int x0, .int x1]) ++ List.replicate (3 - (lg_sl ([.ref (b 0), .int x0, .int x1])).length) Slot.unset).toArray = ls at hl ⊢
  have hl : lv_has ls 3 [(0, .ref (b 0)), (1, .int x0), (2, .int x1)] := hl
  refine lv_aload_n hx hb dX12_isAt_0 rfl (lv_at hl 0 rfl) ?_
  refine va_get (D := D) (ci := 12) (v := .int (L 0 12)) (C := RX12) (T := TX12) (N := 24) hx hb hts hin12 hown hK hP 0 rfl rfl 12 (by decide) (hts (.fieldLink RX12 169 "MissedPointsModel" "to" "I") (by decide +kernel)) (fun _ h9 => h9) rfl dX12_isAt_1 ?_
  refine lv_aload_n hx hb dX12_isAt_4 rfl (lv_at hl 0 rfl) ?_
  refine va_get (D := D) (ci := 12) (v := .int (L 0 10)) (C := RX12) (T := TX12) (N := 24) hx hb hts hin12 hown hK hP 0 rfl rfl 10 (by decide) (hts (.fieldLink RX12 101 "MissedPointsModel" "taped" "I") (by decide +kernel)) (fun _ h9 => h9) rfl dX12_isAt_5 ?_
  refine lv_icmp_ge (tgt := 32) hx hb dX12_isAt_8 (by decide) (fun c23343 => ?_) (fun c23343 => ?_)
  · refine lv_iconst (v := 0) hx hb dX12_isAt_32 (by decide) ?_
    exact W.zret (v := 0) hx hb hr (by decide) (fun t ht hW => ⟨_, rfl, ⟨(by decide : Rg 0 1 (0 : Int32)), ⟨fun h9 => absurd rfl h9, fun _ => (by have y90 : (L 0 10).toInt ≤ (L 0 12).toInt := (lz_le _ _).mp c23343; have y9c1 : (0 : Int32).toInt = 0 := (by decide); have y9c2 : (1 : Int32).toInt = 1 := (by decide); omega)⟩⟩, ht⟩) (fun q hq => absurd hq List.not_mem_nil) dX12_isAt_33
  · have g23344 : Rg 1 120 (L 0 10) := rg_ltr hL.2.2.2.2.2 hL.2.1 (rg_nle c23343) (by decide)
    have g23345 : Rg 0 119 (L 0 12) := rg_ltl hL.2.2.2.2.2 hL.2.1 (rg_nle c23343) (by decide)
    refine lv_aload_n hx hb dX12_isAt_11 rfl (lv_at hl 0 rfl) ?_
    refine va_get (D := D) (ci := 12) (v := .ref (b 8)) (C := RX12) (T := TX12) (N := 24) hx hb hts hin12 hown hK hP 0 rfl rfl 9 (by decide) (hts (.fieldLink RX12 35 "MissedPointsModel" "tape" "[I") (by decide +kernel)) (fun _ h9 => h9) rfl dX12_isAt_12 ?_
    refine lv_aload_n hx hb dX12_isAt_15 rfl (lv_at hl 0 rfl) ?_
    refine va_get (D := D) (ci := 12) (v := .int (L 0 12)) (C := RX12) (T := TX12) (N := 24) hx hb hts hin12 hown hK hP 0 rfl rfl 12 (by decide) (hts (.fieldLink RX12 169 "MissedPointsModel" "to" "I") (by decide +kernel)) (fun _ h9 => h9) rfl dX12_isAt_16 ?_
    refine va_iald hx hb hK hP 8 0 rfl rfl (rg_in g23345 (by decide) (by decide)) dX12_isAt_19 ?_
    refine lz_top (y := (v 8 (L 0 12).toNatClampNeg)) rfl ?_
    refine lv_iload_n hx hb dX12_isAt_20 rfl (lv_at hl 1 rfl) ?_
    refine lv_iload_n hx hb dX12_isAt_21 rfl (lv_at hl 2 rfl) ?_
    refine lz_ss (As := [.int ((v 8 (L 0 12).toNatClampNeg)), .int x0, .int x1]) (rest := []) ⟨hx, hb, hml, hown, hts⟩ (w_X12_in l D cI cS ((v 8 (L 0 12).toNatClampNeg)) x0 x1) hKK (hP.sub (ws' := []) [] rfl) (va_cwS 3 hts gX12_isAt_X12_in rfl rfl rfl (by decide +kernel) ⟨Nat.le_of_ble_eq_true rfl, Nat.le_of_ble_eq_true rfl⟩) rfl hl.1 rfl (Nat.le_of_ble_eq_true rfl) dX12_isAt_22 ⟨Nat.le_of_ble_eq_true rfl, Nat.le_of_ble_eq_true rfl⟩ (fun r23347 hr23347 => ?_)
    refine lv_if_eq (tgt := 32) hx hb dX12_isAt_25 (by decide) (fun c23348 => ?_) (fun c23348 => ?_)
    · have zt23349 : (((v 8 (L 0 12).toNatClampNeg)).toInt < x0.toInt ∨ x1.toInt < ((v 8 (L 0 12).toNatClampNeg)).toInt) := hr23347.2.1 c23348
      have g23350 : Rg 0 0 r23347 := wk_eql hr23347.1 (by decide : Rg 0 0 (0 : Int32)) c23348 (by decide)
      refine lv_iconst (v := 0) hx hb dX12_isAt_32 (by decide) ?_
      exact W.zret (v := 0) hx hb hr (by decide) (fun t ht hW => ⟨_, rfl, ⟨(by decide : Rg 0 1 (0 : Int32)), ⟨fun h9 => absurd rfl h9, fun _ => (by have y90 : (L 0 12).toInt < (L 0 10).toInt := (lz_lt _ _).mp (rg_nle c23343); have y91 : r23347.toInt = (0 : Int32).toInt := congrArg Int32.toInt c23348; have y92 : Rg 1 120 (L 0 10) := g23344; have y93 : Rg 0 119 (L 0 12) := g23345; have y94 : Rg 0 0 r23347 := g23350; have y9c5 : (0 : Int32).toInt = 0 := (by decide); have y9c6 : (1 : Int32).toInt = 1 := (by decide); omega)⟩⟩, ht⟩) (fun q hq => absurd hq List.not_mem_nil) dX12_isAt_33
    · have zn23351 : x0.toInt ≤ ((v 8 (L 0 12).toNatClampNeg)).toInt ∧ ((v 8 (L 0 12).toNatClampNeg)).toInt ≤ x1.toInt := (hr23347.2.2 c23348)
      have g23352 : Rg 1 1 r23347 := rg_ne_lo (k := 0) hr23347.1 (by decide) c23348 (by decide)
      refine lv_iconst (v := 1) hx hb dX12_isAt_28 (by decide) ?_
      refine lv_goto (tgt := 33) hx hb dX12_isAt_29 (by decide) ?_
      exact W.zret (v := 1) hx hb hr (by decide) (fun t ht hW => ⟨_, rfl, ⟨(by decide : Rg 0 1 (1 : Int32)), ⟨fun _ => (by have y90 : (L 0 12).toInt < (L 0 10).toInt := (lz_lt _ _).mp (rg_nle c23343); have y91 : ¬ r23347.toInt = (0 : Int32).toInt := fun z => c23348 (Int32.toInt_inj.mp z); have y92 : Rg 1 120 (L 0 10) := g23344; have y93 : Rg 0 119 (L 0 12) := g23345; have y94 : Rg 1 1 r23347 := g23352; have y9c5 : (0 : Int32).toInt = 0 := (by decide); have y9c6 : (1 : Int32).toInt = 1 := (by decide); omega), fun h9 => absurd h9 (by decide)⟩⟩, ht⟩) (fun q hq => absurd hq List.not_mem_nil) dX12_isAt_33
theorem dX12_goesOn_100 : decode cX12_goesOn 100 = .ok (.bipush 10, 2) := by decide +kernel
theorem dX12_goesOn_102 : decode cX12_goesOn 102 = .ok (.aload_n 0, 1) := by decide +kernel
theorem dX12_goesOn_103 : decode cX12_goesOn 103 = .ok (.getfield 178, 3) := by decide +kernel
theorem dX12_goesOn_106 : decode cX12_goesOn 106 = .ok (.imul, 1) := by decide +kernel
theorem dX12_goesOn_107 : decode cX12_goesOn 107 = .ok (.aload_n 0, 1) := by decide +kernel
theorem dX12_goesOn_108 : decode cX12_goesOn 108 = .ok (.getfield 35, 3) := by decide +kernel
theorem dX12_goesOn_11 : decode cX12_goesOn 11 = .ok (.aload_n 0, 1) := by decide +kernel
theorem dX12_goesOn_111 : decode cX12_goesOn 111 = .ok (.aload_n 0, 1) := by decide +kernel
theorem dX12_goesOn_112 : decode cX12_goesOn 112 = .ok (.getfield 169, 3) := by decide +kernel
theorem dX12_goesOn_115 : decode cX12_goesOn 115 = .ok (.iaload, 1) := by decide +kernel
theorem dX12_goesOn_116 : decode cX12_goesOn 116 = .ok (.iadd, 1) := by decide +kernel
theorem dX12_goesOn_117 : decode cX12_goesOn 117 = .ok (.bipush 48, 2) := by decide +kernel
theorem dX12_goesOn_119 : decode cX12_goesOn 119 = .ok (.isub, 1) := by decide +kernel
theorem dX12_goesOn_12 : decode cX12_goesOn 12 = .ok (.dup, 1) := by decide +kernel
theorem dX12_goesOn_120 : decode cX12_goesOn 120 = .ok (.putfield 178, 3) := by decide +kernel
theorem dX12_goesOn_123 : decode cX12_goesOn 123 = .ok (.aload_n 0, 1) := by decide +kernel
theorem dX12_goesOn_124 : decode cX12_goesOn 124 = .ok (.dup, 1) := by decide +kernel
theorem dX12_goesOn_125 : decode cX12_goesOn 125 = .ok (.getfield 169, 3) := by decide +kernel
theorem dX12_goesOn_128 : decode cX12_goesOn 128 = .ok (.iconst 1, 1) := by decide +kernel
theorem dX12_goesOn_129 : decode cX12_goesOn 129 = .ok (.iadd, 1) := by decide +kernel
theorem dX12_goesOn_13 : decode cX12_goesOn 13 = .ok (.getfield 169, 3) := by decide +kernel
theorem dX12_goesOn_130 : decode cX12_goesOn 130 = .ok (.putfield 169, 3) := by decide +kernel
theorem dX12_goesOn_133 : decode cX12_goesOn 133 = .ok (.goto (-61), 3) := by decide +kernel
theorem dX12_goesOn_136 : decode cX12_goesOn 136 = .ok (.aload_n 0, 1) := by decide +kernel
theorem dX12_goesOn_137 : decode cX12_goesOn 137 = .ok (.aload_n 0, 1) := by decide +kernel
theorem dX12_goesOn_138 : decode cX12_goesOn 138 = .ok (.getfield 35, 3) := by decide +kernel
theorem dX12_goesOn_141 : decode cX12_goesOn 141 = .ok (.aload_n 0, 1) := by decide +kernel
theorem dX12_goesOn_142 : decode cX12_goesOn 142 = .ok (.getfield 169, 3) := by decide +kernel
theorem dX12_goesOn_145 : decode cX12_goesOn 145 = .ok (.iaload, 1) := by decide +kernel
theorem dX12_goesOn_146 : decode cX12_goesOn 146 = .ok (.iconst 3, 1) := by decide +kernel
theorem dX12_goesOn_147 : decode cX12_goesOn 147 = .ok (.if_icmp .ge 7, 3) := by decide +kernel
theorem dX12_goesOn_150 : decode cX12_goesOn 150 = .ok (.iconst 2, 1) := by decide +kernel
theorem dX12_goesOn_151 : decode cX12_goesOn 151 = .ok (.goto 12, 3) := by decide +kernel
theorem dX12_goesOn_154 : decode cX12_goesOn 154 = .ok (.aload_n 0, 1) := by decide +kernel
theorem dX12_goesOn_155 : decode cX12_goesOn 155 = .ok (.getfield 35, 3) := by decide +kernel
theorem dX12_goesOn_158 : decode cX12_goesOn 158 = .ok (.aload_n 0, 1) := by decide +kernel
theorem dX12_goesOn_159 : decode cX12_goesOn 159 = .ok (.getfield 169, 3) := by decide +kernel
theorem dX12_goesOn_16 : decode cX12_goesOn 16 = .ok (.iconst 1, 1) := by decide +kernel
theorem dX12_goesOn_162 : decode cX12_goesOn 162 = .ok (.iaload, 1) := by decide +kernel
theorem dX12_goesOn_163 : decode cX12_goesOn 163 = .ok (.putfield 181, 3) := by decide +kernel
theorem dX12_goesOn_166 : decode cX12_goesOn 166 = .ok (.aload_n 0, 1) := by decide +kernel
theorem dX12_goesOn_167 : decode cX12_goesOn 167 = .ok (.dup, 1) := by decide +kernel
theorem dX12_goesOn_168 : decode cX12_goesOn 168 = .ok (.getfield 169, 3) := by decide +kernel
theorem dX12_goesOn_17 : decode cX12_goesOn 17 = .ok (.iadd, 1) := by decide +kernel
theorem dX12_goesOn_171 : decode cX12_goesOn 171 = .ok (.iconst 1, 1) := by decide +kernel
theorem dX12_goesOn_172 : decode cX12_goesOn 172 = .ok (.iadd, 1) := by decide +kernel
theorem dX12_goesOn_173 : decode cX12_goesOn 173 = .ok (.putfield 169, 3) := by decide +kernel
theorem dX12_goesOn_18 : decode cX12_goesOn 18 = .ok (.putfield 169, 3) := by decide +kernel
theorem dX12_goesOn_21 : decode cX12_goesOn 21 = .ok (.goto (-21), 3) := by decide +kernel
theorem dX12_goesOn_56 : decode cX12_goesOn 56 = .ok (.aload_n 0, 1) := by decide +kernel
theorem dX12_goesOn_57 : decode cX12_goesOn 57 = .ok (.bipush 48, 2) := by decide +kernel
theorem dX12_goesOn_59 : decode cX12_goesOn 59 = .ok (.bipush 57, 2) := by decide +kernel
theorem dX12_goesOn_61 : decode cX12_goesOn 61 = .ok (.invokevirtual 172, 3) := by decide +kernel
theorem dX12_goesOn_64 : decode cX12_goesOn 64 = .ok (.ifCond .eq 72, 3) := by decide +kernel
theorem dX12_goesOn_67 : decode cX12_goesOn 67 = .ok (.aload_n 0, 1) := by decide +kernel
theorem dX12_goesOn_68 : decode cX12_goesOn 68 = .ok (.iconst 1, 1) := by decide +kernel
theorem dX12_goesOn_69 : decode cX12_goesOn 69 = .ok (.putfield 181, 3) := by decide +kernel
theorem dX12_goesOn_72 : decode cX12_goesOn 72 = .ok (.aload_n 0, 1) := by decide +kernel
theorem dX12_goesOn_73 : decode cX12_goesOn 73 = .ok (.bipush 48, 2) := by decide +kernel
theorem dX12_goesOn_75 : decode cX12_goesOn 75 = .ok (.bipush 57, 2) := by decide +kernel
theorem dX12_goesOn_77 : decode cX12_goesOn 77 = .ok (.invokevirtual 172, 3) := by decide +kernel
theorem dX12_goesOn_80 : decode cX12_goesOn 80 = .ok (.ifCond .eq 96, 3) := by decide +kernel
theorem dX12_goesOn_83 : decode cX12_goesOn 83 = .ok (.aload_n 0, 1) := by decide +kernel
theorem dX12_goesOn_84 : decode cX12_goesOn 84 = .ok (.aload_n 0, 1) := by decide +kernel
theorem dX12_goesOn_85 : decode cX12_goesOn 85 = .ok (.getfield 178, 3) := by decide +kernel
theorem dX12_goesOn_88 : decode cX12_goesOn 88 = .ok (.bipush 99, 2) := by decide +kernel
theorem dX12_goesOn_90 : decode cX12_goesOn 90 = .ok (.if_icmp .le 10, 3) := by decide +kernel
theorem dX12_goesOn_93 : decode cX12_goesOn 93 = .ok (.aload_n 0, 1) := by decide +kernel
theorem dX12_goesOn_94 : decode cX12_goesOn 94 = .ok (.getfield 178, 3) := by decide +kernel
theorem dX12_goesOn_97 : decode cX12_goesOn 97 = .ok (.goto 23, 3) := by decide +kernel
set_option maxHeartbeats 4000000 in
set_option maxRecDepth 100000 in
theorem w_X12_goesOn (l : Launch) (D : va_G) (cI cS : ClassId) (sz : Nat) (b : Nat → Nat) (l_m l_z l_tp l_hs l_to l_tk l_wo : Int32) (l_so l_sz l_kp : Nat → Int32) (v0 : SU) (hL : TyL (mkM l_m l_z l_tp l_hs l_to l_tk l_wo l_so l_sz l_kp)) (hV : TyV v0) (hto : l_to.toInt ≤ l_tp.toInt) : Met l yX12_goesOn wsX12_goesOn ({ frames := 2, cells := 0, slots := 0, locals := 80 }) (PQ D cI cS (wM cI b (mkM l_m l_z l_tp l_hs l_to l_tk l_wo l_so l_sz l_kp) v0) sz [.ref (b 0)]) (QE (S := Int32 × Int32 × Int32 × SU) D (wM cI b (mkM l_m l_z l_tp l_hs l_to l_tk l_wo l_so l_sz l_kp) v0) (fun q => wM cI b (mkM l_m l_z l_tp l_hs q.1 q.2.1 q.2.2.1 l_so l_sz l_kp) q.2.2.2) sz (fun q => TyV q.2.2.2 ∧ Rg 0 120 q.1 ∧ (l_to.toInt ≤ q.1.toInt ∧ q.1.toInt ≤ l_tp.toInt ∧ (¬ q.2.1.toInt = 0 → l_to.toInt < q.1.toInt)))) 0 0 (va_A (wM cI b (mkM l_m l_z l_tp l_hs l_to l_tk l_wo l_so l_sz l_kp) v0) sz) := by
  refine Met.ofW (cc := cX12_goesOn) (maxL := 1) (ret := none) (by decide) rfl ?_
  intro p e s m args below meth c s₁ B hml hv
  obtain ⟨rfl, hsz, hP, hKK, hD0⟩ := hv
  have hx := B.exec
  have hb := B.bytes
  have hr := B.returns
  have hts := atoms_spec (ws := wsX12_goesOn) B.pre
  have hown : s.vm.findClass RX12 = some m.cls := findClass_of_methodNamed B.named
  have hlocks := B.notSynchronized
  have hK := hKK.1
  have hin12 : ∀ w ∈ wsX120, w ∈ wsX12_goesOn := by decide +kernel
  subst hsz
  have hD := hD0.self (sz := s.heap.size)
  obtain ⟨A, hAe⟩ : ∃ A, A = va_A (wM cI b (mkM l_m l_z l_tp l_hs l_to l_tk l_wo l_so l_sz l_kp) v0) s.heap.size := ⟨_, rfl⟩
  rw [← hAe] at hD
  have hA : ∀ q : Nat, s.heap.size ≤ q → A q := fun q h => by rw [hAe]; exact Or.inr h
  have hS : va_S A s.heap s.heap [] := va_S.rf
  have hl := lv_entry ([.ref (b 0)]) (n := 1) (Nat.le_of_ble_eq_true rfl)
  rw [lg_entry_eq]
  generalize (lg_sl ([.ref (b 0)]) ++ List.replicate (1 - (lg_sl ([.ref (b 0)])).length) Slot.unset).toArray = ls at hl ⊢
  have hl : lv_has ls 1 [(0, .ref (b 0))] := hl
  obtain ⟨v, hv9⟩ : ∃ v : SU, v = v0 := ⟨_, rfl⟩
  rw [← hv9] at hP hD hV
  have p_m : Rg 0 12 l_m := hL.1
  have p_tp : Rg 0 120 l_tp := hL.2.1
  have p_so : Ar (-1) 1 l_so := hL.2.2.1
  have p_sz : Ar 0 40 l_sz := hL.2.2.2.1
  have p_kp : Kp l_kp := hL.2.2.2.2.1
  have p_to : Rg 0 120 l_to := hL.2.2.2.2.2
  have lp72 : ∀ (n72 : Nat) (y72_kto : Int32) (y72_kwo : Int32) (v : SU) (H : Heap) (locs : List Loc) (ls : Array Slot), Rg 0 120 y72_kto → (l_to.toInt ≤ y72_kto.toInt ∧ y72_kto.toInt ≤ l_tp.toInt ∧ (l_to.toInt < y72_kto.toInt ∨ (y72_kto.toInt < l_tp.toInt ∧ 48 ≤ (v 8 y72_kto.toNatClampNeg).toInt ∧ (v 8 y72_kto.toNatClampNeg).toInt ≤ 57))) → TyV v → va_P D cls (wM cI b (mkM l_m l_z l_tp l_hs y72_kto (1 : Int32) y72_kwo l_so l_sz l_kp) v) H → va_D A (wM cI b (mkM l_m l_z l_tp l_hs y72_kto (1 : Int32) y72_kwo l_so l_sz l_kp) v) → va_S A s.heap H locs → lv_has ls 1 [(0, .ref (b 0))] → 120 - y72_kto.toInt < (n72 : Int) → W p l e (headSpec wsX12_goesOn ({ frames := 2, cells := 0, slots := 0, locals := 80 })).room s m ([.ref (b 0)]).toArray below meth c H locs 0 0 (MQ below (QE (S := Int32 × Int32 × Int32 × SU) D (wM cI b (mkM l_m l_z l_tp l_hs l_to l_tk l_wo l_so l_sz l_kp) v0) (fun q => wM cI b (mkM l_m l_z l_tp l_hs q.1 q.2.1 q.2.2.1 l_so l_sz l_kp) q.2.2.2) s.heap.size (fun q => TyV q.2.2.2 ∧ Rg 0 120 q.1 ∧ (l_to.toInt ≤ q.1.toInt ∧ q.1.toInt ≤ l_tp.toInt ∧ (¬ q.2.1.toInt = 0 → l_to.toInt < q.1.toInt)))) ([.ref (b 0)]).toArray s 0 0 (va_A (wM cI b (mkM l_m l_z l_tp l_hs l_to l_tk l_wo l_so l_sz l_kp) v0) s.heap.size)) (F0 m 72 ls []) := by
    intro n72
    induction n72 with
    | zero =>
      intro y72_kto y72_kwo v H locs ls g72_kto x72_0 hV hP hD hS hl hm72
      exact absurd rfl (me_z g72_kto hm72)
    | succ n72 ih72 =>
      intro y72_kto y72_kwo v H locs ls g72_kto x72_0 hV hP hD hS hl hm72
      refine lv_aload_n hx hb dX12_goesOn_72 rfl (lv_at hl 0 rfl) ?_
      refine lv_bipush (v := 48) hx hb dX12_goesOn_73 (by decide) ?_
      refine lv_bipush (v := 57) hx hb dX12_goesOn_75 (by decide) ?_
      refine wk_sv 0 (As := [.int 48, .int 57]) (rest := []) ⟨hx, hb, hml, hown, hts⟩ (w_X12_isAt l D cI cS b (mkM l_m l_z l_tp l_hs y72_kto (1 : Int32) y72_kwo l_so l_sz l_kp) v (show TyL (mkM l_m l_z l_tp l_hs y72_kto (1 : Int32) y72_kwo l_so l_sz l_kp) from ⟨p_m, p_tp, p_so, p_sz, p_kp, g72_kto⟩) hV (48 : Int32) (57 : Int32)) hKK hP (ci := 12) rfl rfl (cwV 2 hts gX12_goesOn_X12_isAt rfl rfl rfl (by decide +kernel) ⟨Nat.le_of_ble_eq_true rfl, Nat.le_of_ble_eq_true rfl⟩) rfl hl.1 rfl (Nat.le_of_ble_eq_true rfl) dX12_goesOn_77 ⟨Nat.le_of_ble_eq_true rfl, Nat.le_of_ble_eq_true rfl⟩ (fun r23542 hr23542 => ?_)
      have i23543 : (¬ r23542 = 0 → (y72_kto.toInt < l_tp.toInt ∧ (48 : Int32).toInt ≤ (v 8 y72_kto.toNatClampNeg).toInt ∧ (v 8 y72_kto.toNatClampNeg).toInt ≤ (57 : Int32).toInt)) ∧ (r23542 = 0 → ¬ (y72_kto.toInt < l_tp.toInt ∧ (48 : Int32).toInt ≤ (v 8 y72_kto.toNatClampNeg).toInt ∧ (v 8 y72_kto.toNatClampNeg).toInt ≤ (57 : Int32).toInt)) := hr23542.2
      refine lv_if_eq (tgt := 176) hx hb dX12_goesOn_80 (by decide) (fun c23544 => ?_) (fun c23544 => ?_)
      · have i23545 := i23543.2 c23544
        have g23546 : Rg 0 0 r23542 := wk_eql hr23542.1 (by decide : Rg 0 0 (0 : Int32)) c23544 (by decide)
        subst hAe
        exact W.vret hx hb hr (fun t ht hW => ⟨⟨(y72_kto, (1 : Int32), y72_kwo, v), rfl, ⟨hV, g72_kto, (show l_to.toInt ≤ y72_kto.toInt ∧ y72_kto.toInt ≤ l_tp.toInt ∧ (¬ (1 : Int32).toInt = 0 → l_to.toInt < y72_kto.toInt) from by have y90 : r23542.toInt = (0 : Int32).toInt := congrArg Int32.toInt c23544; have y91 : Rg 0 0 r23542 := g23546; have y92 : Rg 0 12 l_m := p_m; have y93 : Rg 0 120 l_tp := p_tp; have y94 : Rg 0 120 y72_kto := g72_kto; have y9c5 : (0 : Int32).toInt = 0 := (by decide); have y9c6 : (1 : Int32).toInt = 1 := (by decide); have y9c7 : (48 : Int32).toInt = 48 := (by decide); have y9c8 : (57 : Int32).toInt = 57 := (by decide); omega)⟩, by rw [ht]; exact hP, hD⟩, hS.F ht⟩) hS.2.2 dX12_goesOn_176
      · have i23547 := i23543.1 c23544
        have g23548 : Rg 0 119 y72_kto := by have y90 : Rg 0 12 l_m := p_m; have y91 : Rg 0 120 l_tp := p_tp; have y92 : Rg 0 120 y72_kto := g72_kto; have y93 : Rg 0 120 y72_kto := g72_kto; have y9c4 : (0 : Int32).toInt = 0 := (by decide); have y9c5 : (1 : Int32).toInt = 1 := (by decide); exact ⟨by omega, by omega⟩
        have g23549 : Rg 1 1 r23542 := rg_ne_lo (k := 0) hr23542.1 (by decide) c23544 (by decide)
        refine lv_aload_n hx hb dX12_goesOn_83 rfl (lv_at hl 0 rfl) ?_
        refine lv_aload_n hx hb dX12_goesOn_84 rfl (lv_at hl 0 rfl) ?_
        refine va_get (D := D) (ci := 12) (v := .int y72_kwo) (C := RX12) (T := TX12) (N := 24) hx hb hts hin12 hown hK hP 0 rfl rfl 14 (by decide) (hts (.fieldLink RX12 178 "MissedPointsModel" "worth" "I") (by decide +kernel)) (fun _ h9 => h9) rfl dX12_goesOn_85 ?_
        refine lv_bipush (v := 99) hx hb dX12_goesOn_88 (by decide) ?_
        refine lv_icmp_le (tgt := 100) hx hb dX12_goesOn_90 (by decide) (fun c23550 => ?_) (fun c23550 => ?_)
        · have g23551 : Rg (-2147483648) 99 y72_kwo := rg_lel (rg_any y72_kwo) (by decide : Rg 99 99 (99 : Int32)) c23550 (by decide)
          refine lv_bipush (v := 10) hx hb dX12_goesOn_100 (by decide) ?_
          refine lv_aload_n hx hb dX12_goesOn_102 rfl (lv_at hl 0 rfl) ?_
          refine va_get (D := D) (ci := 12) (v := .int y72_kwo) (C := RX12) (T := TX12) (N := 24) hx hb hts hin12 hown hK hP 0 rfl rfl 14 (by decide) (hts (.fieldLink RX12 178 "MissedPointsModel" "worth" "I") (by decide +kernel)) (fun _ h9 => h9) rfl dX12_goesOn_103 ?_
          refine lv_imul hx hb dX12_goesOn_106 ?_
          refine wk_topP (P := fun r => r = (10 : Int32) * y72_kwo) rfl (fun r23552 qr23552 => ?_)
          refine lv_aload_n hx hb dX12_goesOn_107 rfl (lv_at hl 0 rfl) ?_
          refine va_get (D := D) (ci := 12) (v := .ref (b 8)) (C := RX12) (T := TX12) (N := 24) hx hb hts hin12 hown hK hP 0 rfl rfl 9 (by decide) (hts (.fieldLink RX12 35 "MissedPointsModel" "tape" "[I") (by decide +kernel)) (fun _ h9 => h9) rfl dX12_goesOn_108 ?_
          refine lv_aload_n hx hb dX12_goesOn_111 rfl (lv_at hl 0 rfl) ?_
          refine va_get (D := D) (ci := 12) (v := .int y72_kto) (C := RX12) (T := TX12) (N := 24) hx hb hts hin12 hown hK hP 0 rfl rfl 12 (by decide) (hts (.fieldLink RX12 169 "MissedPointsModel" "to" "I") (by decide +kernel)) (fun _ h9 => h9) rfl dX12_goesOn_112 ?_
          refine wk_aldA hx hb hK hP 8 0 rfl rfl (rg_in g23548 (by decide) (by decide)) dX12_goesOn_115 (fun r23553 => ?_)
          refine lv_iadd hx hb dX12_goesOn_116 ?_
          refine wk_topP (P := fun r => r = r23552 + r23553) rfl (fun r23554 qr23554 => ?_)
          refine lv_bipush (v := 48) hx hb dX12_goesOn_117 (by decide) ?_
          refine lv_isub hx hb dX12_goesOn_119 ?_
          refine wk_topP (P := fun r => r = r23554 - (48 : Int32)) rfl (fun r23555 qr23555 => ?_)
          refine va_put (D := D) (ci := 12) (v := .int r23555) (ty := .int) (C := RX12) (T := TX12) (N := 24) hx hb hts hin12 tyX12 tyX12_ok nmX12 hown hK hP hD hS 0 rfl rfl 14 (by decide) (hts (.fieldLink RX12 178 "MissedPointsModel" "worth" "I") (by decide +kernel)) (fun _ h9 => h9) rfl (by decide +kernel) rfl rfl (Nat.le_of_ble_eq_true rfl) dX12_goesOn_120 (fun H locs hP hD hS => ?_)
          have hP : va_P D cls (wM cI b (mkM l_m l_z l_tp l_hs y72_kto (1 : Int32) r23555 l_so l_sz l_kp) v) H := hP
          have hD : va_D A (wM cI b (mkM l_m l_z l_tp l_hs y72_kto (1 : Int32) r23555 l_so l_sz l_kp) v) := hD
          refine lv_aload_n hx hb dX12_goesOn_123 rfl (lv_at hl 0 rfl) ?_
          refine lv_dup hx hb dX12_goesOn_124 rfl ?_
          refine va_get (D := D) (ci := 12) (v := .int y72_kto) (C := RX12) (T := TX12) (N := 24) hx hb hts hin12 hown hK hP 0 rfl rfl 12 (by decide) (hts (.fieldLink RX12 169 "MissedPointsModel" "to" "I") (by decide +kernel)) (fun _ h9 => h9) rfl dX12_goesOn_125 ?_
          refine lv_iconst (v := 1) hx hb dX12_goesOn_128 (by decide) ?_
          refine wk_iadd (e1 := 1) (f := 120) hx hb dX12_goesOn_129 g23548 (by decide : Rg 1 1 (1 : Int32)) (by decide) (fun r23556 hr23556 er23556 qr23556 => ?_)
          refine va_put (D := D) (ci := 12) (v := .int r23556) (ty := .int) (C := RX12) (T := TX12) (N := 24) hx hb hts hin12 tyX12 tyX12_ok nmX12 hown hK hP hD hS 0 rfl rfl 12 (by decide) (hts (.fieldLink RX12 169 "MissedPointsModel" "to" "I") (by decide +kernel)) (fun _ h9 => h9) rfl (by decide +kernel) rfl rfl (Nat.le_of_ble_eq_true rfl) dX12_goesOn_130 (fun H locs hP hD hS => ?_)
          have hP : va_P D cls (wM cI b (mkM l_m l_z l_tp l_hs r23556 (1 : Int32) r23555 l_so l_sz l_kp) v) H := hP
          have hD : va_D A (wM cI b (mkM l_m l_z l_tp l_hs r23556 (1 : Int32) r23555 l_so l_sz l_kp) v) := hD
          refine lv_goto (tgt := 72) hx hb dX12_goesOn_133 (by decide) ?_
          exact ih72 r23556 r23555 v _ _ ls (show Rg 0 120 r23556 from rg_w hr23556 (by decide) (by decide)) (by have y90 : ¬ r23542.toInt = (0 : Int32).toInt := fun z => c23544 (Int32.toInt_inj.mp z); have y91 : y72_kwo.toInt ≤ (99 : Int32).toInt := (lz_le _ _).mp c23550; have y92 : Rg 0 119 y72_kto := g23548; have y93 : Rg 1 1 r23542 := g23549; have y94 : Rg (-2147483648) 99 y72_kwo := g23551; have y95 : Rg 0 12 l_m := p_m; have y96 : Rg 0 120 l_tp := p_tp; have y97 : Rg 1 120 r23556 := hr23556; have y9c8 : (0 : Int32).toInt = 0 := (by decide); have y9c9 : (1 : Int32).toInt = 1 := (by decide); have y9c10 : (10 : Int32).toInt = 10 := (by decide); have y9c11 : (48 : Int32).toInt = 48 := (by decide); have y9c12 : (57 : Int32).toInt = 57 := (by decide); have y9c13 : (99 : Int32).toInt = 99 := (by decide); exact ⟨by omega, by omega, Or.inl (by omega)⟩) hV hP hD hS (lv_sub (l' := [(0, .ref (b 0))]) hl [0] rfl) (me_up hm72 er23556 (by decide))
        · have g23557 : Rg 100 2147483647 y72_kwo := rg_ltr (by decide : Rg 99 99 (99 : Int32)) (rg_any y72_kwo) (rg_nle c23550) (by decide)
          refine lv_aload_n hx hb dX12_goesOn_93 rfl (lv_at hl 0 rfl) ?_
          refine va_get (D := D) (ci := 12) (v := .int y72_kwo) (C := RX12) (T := TX12) (N := 24) hx hb hts hin12 hown hK hP 0 rfl rfl 14 (by decide) (hts (.fieldLink RX12 178 "MissedPointsModel" "worth" "I") (by decide +kernel)) (fun _ h9 => h9) rfl dX12_goesOn_94 ?_
          refine lv_goto (tgt := 120) hx hb dX12_goesOn_97 (by decide) ?_
          refine va_put (D := D) (ci := 12) (v := .int y72_kwo) (ty := .int) (C := RX12) (T := TX12) (N := 24) hx hb hts hin12 tyX12 tyX12_ok nmX12 hown hK hP hD hS 0 rfl rfl 14 (by decide) (hts (.fieldLink RX12 178 "MissedPointsModel" "worth" "I") (by decide +kernel)) (fun _ h9 => h9) rfl (by decide +kernel) rfl rfl (Nat.le_of_ble_eq_true rfl) dX12_goesOn_120 (fun H locs hP hD hS => ?_)
          have hP : va_P D cls (wM cI b (mkM l_m l_z l_tp l_hs y72_kto (1 : Int32) y72_kwo l_so l_sz l_kp) v) H := hP
          have hD : va_D A (wM cI b (mkM l_m l_z l_tp l_hs y72_kto (1 : Int32) y72_kwo l_so l_sz l_kp) v) := hD
          refine lv_aload_n hx hb dX12_goesOn_123 rfl (lv_at hl 0 rfl) ?_
          refine lv_dup hx hb dX12_goesOn_124 rfl ?_
          refine va_get (D := D) (ci := 12) (v := .int y72_kto) (C := RX12) (T := TX12) (N := 24) hx hb hts hin12 hown hK hP 0 rfl rfl 12 (by decide) (hts (.fieldLink RX12 169 "MissedPointsModel" "to" "I") (by decide +kernel)) (fun _ h9 => h9) rfl dX12_goesOn_125 ?_
          refine lv_iconst (v := 1) hx hb dX12_goesOn_128 (by decide) ?_
          refine wk_iadd (e1 := 1) (f := 120) hx hb dX12_goesOn_129 g23548 (by decide : Rg 1 1 (1 : Int32)) (by decide) (fun r23558 hr23558 er23558 qr23558 => ?_)
          refine va_put (D := D) (ci := 12) (v := .int r23558) (ty := .int) (C := RX12) (T := TX12) (N := 24) hx hb hts hin12 tyX12 tyX12_ok nmX12 hown hK hP hD hS 0 rfl rfl 12 (by decide) (hts (.fieldLink RX12 169 "MissedPointsModel" "to" "I") (by decide +kernel)) (fun _ h9 => h9) rfl (by decide +kernel) rfl rfl (Nat.le_of_ble_eq_true rfl) dX12_goesOn_130 (fun H locs hP hD hS => ?_)
          have hP : va_P D cls (wM cI b (mkM l_m l_z l_tp l_hs r23558 (1 : Int32) y72_kwo l_so l_sz l_kp) v) H := hP
          have hD : va_D A (wM cI b (mkM l_m l_z l_tp l_hs r23558 (1 : Int32) y72_kwo l_so l_sz l_kp) v) := hD
          refine lv_goto (tgt := 72) hx hb dX12_goesOn_133 (by decide) ?_
          exact ih72 r23558 y72_kwo v _ _ ls (show Rg 0 120 r23558 from rg_w hr23558 (by decide) (by decide)) (by have y90 : ¬ r23542.toInt = (0 : Int32).toInt := fun z => c23544 (Int32.toInt_inj.mp z); have y91 : (99 : Int32).toInt < y72_kwo.toInt := (lz_lt _ _).mp (rg_nle c23550); have y92 : Rg 0 119 y72_kto := g23548; have y93 : Rg 1 1 r23542 := g23549; have y94 : Rg 100 2147483647 y72_kwo := g23557; have y95 : Rg 0 12 l_m := p_m; have y96 : Rg 0 120 l_tp := p_tp; have y97 : Rg 1 120 r23558 := hr23558; have y98 : Rg 100 2147483647 y72_kwo := g23557; have y9c9 : (0 : Int32).toInt = 0 := (by decide); have y9c10 : (1 : Int32).toInt = 1 := (by decide); have y9c11 : (48 : Int32).toInt = 48 := (by decide); have y9c12 : (57 : Int32).toInt = 57 := (by decide); have y9c13 : (99 : Int32).toInt = 99 := (by decide); exact ⟨by omega, by omega, Or.inl (by omega)⟩) hV hP hD hS (lv_sub (l' := [(0, .ref (b 0))]) hl [0] rfl) (me_up hm72 er23558 (by decide))
  have lp0 : ∀ (n0 : Nat) (y0_kto : Int32) (v : SU) (H : Heap) (locs : List Loc) (ls : Array Slot), Rg 1 120 y0_kto → (l_to.toInt ≤ y0_kto.toInt ∧ y0_kto.toInt ≤ l_tp.toInt) → TyV v → va_P D cls (wM cI b (mkM l_m l_z l_tp l_hs y0_kto l_tk l_wo l_so l_sz l_kp) v) H → va_D A (wM cI b (mkM l_m l_z l_tp l_hs y0_kto l_tk l_wo l_so l_sz l_kp) v) → va_S A s.heap H locs → lv_has ls 1 [(0, .ref (b 0))] → 120 - y0_kto.toInt < (n0 : Int) → W p l e (headSpec wsX12_goesOn ({ frames := 2, cells := 0, slots := 0, locals := 80 })).room s m ([.ref (b 0)]).toArray below meth c H locs 0 0 (MQ below (QE (S := Int32 × Int32 × Int32 × SU) D (wM cI b (mkM l_m l_z l_tp l_hs l_to l_tk l_wo l_so l_sz l_kp) v0) (fun q => wM cI b (mkM l_m l_z l_tp l_hs q.1 q.2.1 q.2.2.1 l_so l_sz l_kp) q.2.2.2) s.heap.size (fun q => TyV q.2.2.2 ∧ Rg 0 120 q.1 ∧ (l_to.toInt ≤ q.1.toInt ∧ q.1.toInt ≤ l_tp.toInt ∧ (¬ q.2.1.toInt = 0 → l_to.toInt < q.1.toInt)))) ([.ref (b 0)]).toArray s 0 0 (va_A (wM cI b (mkM l_m l_z l_tp l_hs l_to l_tk l_wo l_so l_sz l_kp) v0) s.heap.size)) (F0 m 0 ls []) := by
    intro n0
    induction n0 with
    | zero =>
      intro y0_kto v H locs ls g0_kto x0_0 hV hP hD hS hl hm0
      exact absurd rfl (me_z g0_kto hm0)
    | succ n0 ih0 =>
      intro y0_kto v H locs ls g0_kto x0_0 hV hP hD hS hl hm0
      refine lv_aload_n hx hb dX12_goesOn_0 rfl (lv_at hl 0 rfl) ?_
      refine lv_bipush (v := 32) hx hb dX12_goesOn_1 (by decide) ?_
      refine lv_bipush (v := 32) hx hb dX12_goesOn_3 (by decide) ?_
      refine wk_sv 0 (As := [.int 32, .int 32]) (rest := []) ⟨hx, hb, hml, hown, hts⟩ (w_X12_isAt l D cI cS b (mkM l_m l_z l_tp l_hs y0_kto l_tk l_wo l_so l_sz l_kp) v (show TyL (mkM l_m l_z l_tp l_hs y0_kto l_tk l_wo l_so l_sz l_kp) from ⟨p_m, p_tp, p_so, p_sz, p_kp, (show Rg 0 120 y0_kto from rg_w g0_kto (by decide) (by decide))⟩) hV (32 : Int32) (32 : Int32)) hKK hP (ci := 12) rfl rfl (cwV 2 hts gX12_goesOn_X12_isAt rfl rfl rfl (by decide +kernel) ⟨Nat.le_of_ble_eq_true rfl, Nat.le_of_ble_eq_true rfl⟩) rfl hl.1 rfl (Nat.le_of_ble_eq_true rfl) dX12_goesOn_5 ⟨Nat.le_of_ble_eq_true rfl, Nat.le_of_ble_eq_true rfl⟩ (fun r23559 hr23559 => ?_)
      have i23560 : (¬ r23559 = 0 → (y0_kto.toInt < l_tp.toInt ∧ (32 : Int32).toInt ≤ (v 8 y0_kto.toNatClampNeg).toInt ∧ (v 8 y0_kto.toNatClampNeg).toInt ≤ (32 : Int32).toInt)) ∧ (r23559 = 0 → ¬ (y0_kto.toInt < l_tp.toInt ∧ (32 : Int32).toInt ≤ (v 8 y0_kto.toNatClampNeg).toInt ∧ (v 8 y0_kto.toNatClampNeg).toInt ≤ (32 : Int32).toInt)) := hr23559.2
      refine lv_if_eq (tgt := 24) hx hb dX12_goesOn_8 (by decide) (fun c23561 => ?_) (fun c23561 => ?_)
      · have i23562 := i23560.2 c23561
        have g23563 : Rg 0 0 r23559 := wk_eql hr23559.1 (by decide : Rg 0 0 (0 : Int32)) c23561 (by decide)
        refine lv_aload_n hx hb dX12_goesOn_24 rfl (lv_at hl 0 rfl) ?_
        refine lv_aload_n hx hb dX12_goesOn_25 rfl (lv_at hl 0 rfl) ?_
        refine va_get (D := D) (ci := 12) (v := .int y0_kto) (C := RX12) (T := TX12) (N := 24) hx hb hts hin12 hown hK hP 0 rfl rfl 12 (by decide) (hts (.fieldLink RX12 169 "MissedPointsModel" "to" "I") (by decide +kernel)) (fun _ h9 => h9) rfl dX12_goesOn_26 ?_
        refine mp_11 hx hb hts hin12 hown hK hP hD hS hV (hts (.fieldLink RX12 175 "MissedPointsModel" "from" "I") (by decide +kernel)) dX12_goesOn_29 (fun v H locs hV ev23564 hP hD hS => ?_)
        refine lv_aload_n hx hb dX12_goesOn_32 rfl (lv_at hl 0 rfl) ?_
        refine lv_iconst (v := 0) hx hb dX12_goesOn_33 (by decide) ?_
        refine va_put (D := D) (ci := 12) (v := .int 0) (ty := .int) (C := RX12) (T := TX12) (N := 24) hx hb hts hin12 tyX12 tyX12_ok nmX12 hown hK hP hD hS 0 rfl rfl 14 (by decide) (hts (.fieldLink RX12 178 "MissedPointsModel" "worth" "I") (by decide +kernel)) (fun _ h9 => h9) rfl (by decide +kernel) rfl rfl (Nat.le_of_ble_eq_true rfl) dX12_goesOn_34 (fun H locs hP hD hS => ?_)
        have hP : va_P D cls (wM cI b (mkM l_m l_z l_tp l_hs y0_kto l_tk (0 : Int32) l_so l_sz l_kp) v) H := hP
        have hD : va_D A (wM cI b (mkM l_m l_z l_tp l_hs y0_kto l_tk (0 : Int32) l_so l_sz l_kp) v) := hD
        refine lv_aload_n hx hb dX12_goesOn_37 rfl (lv_at hl 0 rfl) ?_
        refine va_get (D := D) (ci := 12) (v := .int y0_kto) (C := RX12) (T := TX12) (N := 24) hx hb hts hin12 hown hK hP 0 rfl rfl 12 (by decide) (hts (.fieldLink RX12 169 "MissedPointsModel" "to" "I") (by decide +kernel)) (fun _ h9 => h9) rfl dX12_goesOn_38 ?_
        refine lv_aload_n hx hb dX12_goesOn_41 rfl (lv_at hl 0 rfl) ?_
        refine va_get (D := D) (ci := 12) (v := .int l_tp) (C := RX12) (T := TX12) (N := 24) hx hb hts hin12 hown hK hP 0 rfl rfl 10 (by decide) (hts (.fieldLink RX12 101 "MissedPointsModel" "taped" "I") (by decide +kernel)) (fun _ h9 => h9) rfl dX12_goesOn_42 ?_
        refine lv_icmp_ne (tgt := 56) hx hb dX12_goesOn_45 (by decide) (fun c23565 => ?_) (fun c23565 => ?_)
        · refine lv_aload_n hx hb dX12_goesOn_56 rfl (lv_at hl 0 rfl) ?_
          refine lv_bipush (v := 48) hx hb dX12_goesOn_57 (by decide) ?_
          refine lv_bipush (v := 57) hx hb dX12_goesOn_59 (by decide) ?_
          refine wk_sv 0 (As := [.int 48, .int 57]) (rest := []) ⟨hx, hb, hml, hown, hts⟩ (w_X12_isAt l D cI cS b (mkM l_m l_z l_tp l_hs y0_kto l_tk (0 : Int32) l_so l_sz l_kp) v (show TyL (mkM l_m l_z l_tp l_hs y0_kto l_tk (0 : Int32) l_so l_sz l_kp) from ⟨p_m, p_tp, p_so, p_sz, p_kp, (show Rg 0 120 y0_kto from rg_w g0_kto (by decide) (by decide))⟩) hV (48 : Int32) (57 : Int32)) hKK hP (ci := 12) rfl rfl (cwV 2 hts gX12_goesOn_X12_isAt rfl rfl rfl (by decide +kernel) ⟨Nat.le_of_ble_eq_true rfl, Nat.le_of_ble_eq_true rfl⟩) rfl hl.1 rfl (Nat.le_of_ble_eq_true rfl) dX12_goesOn_61 ⟨Nat.le_of_ble_eq_true rfl, Nat.le_of_ble_eq_true rfl⟩ (fun r23566 hr23566 => ?_)
          have i23567 : (¬ r23566 = 0 → (y0_kto.toInt < l_tp.toInt ∧ (48 : Int32).toInt ≤ (v 8 y0_kto.toNatClampNeg).toInt ∧ (v 8 y0_kto.toNatClampNeg).toInt ≤ (57 : Int32).toInt)) ∧ (r23566 = 0 → ¬ (y0_kto.toInt < l_tp.toInt ∧ (48 : Int32).toInt ≤ (v 8 y0_kto.toNatClampNeg).toInt ∧ (v 8 y0_kto.toNatClampNeg).toInt ≤ (57 : Int32).toInt)) := hr23566.2
          refine lv_if_eq (tgt := 136) hx hb dX12_goesOn_64 (by decide) (fun c23568 => ?_) (fun c23568 => ?_)
          · have i23569 := i23567.2 c23568
            have g23570 : Rg 0 0 r23566 := wk_eql hr23566.1 (by decide : Rg 0 0 (0 : Int32)) c23568 (by decide)
            have g23571 : Rg 0 119 y0_kto := by have y90 : r23559.toInt = (0 : Int32).toInt := congrArg Int32.toInt c23561; have y91 : ¬ y0_kto.toInt = l_tp.toInt := fun z => c23565 (Int32.toInt_inj.mp z); have y92 : r23566.toInt = (0 : Int32).toInt := congrArg Int32.toInt c23568; have y93 : Rg 0 0 r23559 := g23563; have y94 : Rg 0 0 r23566 := g23570; have y95 : Rg 0 12 l_m := p_m; have y96 : Rg 0 120 l_tp := p_tp; have y97 : Rg 1 120 y0_kto := g0_kto; have y98 : Rg 1 120 y0_kto := g0_kto; have y9c9 : (0 : Int32).toInt = 0 := (by decide); have y9c10 : (1 : Int32).toInt = 1 := (by decide); have y9c11 : (32 : Int32).toInt = 32 := (by decide); have y9c12 : (48 : Int32).toInt = 48 := (by decide); have y9c13 : (57 : Int32).toInt = 57 := (by decide); exact ⟨by omega, by omega⟩
            refine lv_aload_n hx hb dX12_goesOn_136 rfl (lv_at hl 0 rfl) ?_
            refine lv_aload_n hx hb dX12_goesOn_137 rfl (lv_at hl 0 rfl) ?_
            refine va_get (D := D) (ci := 12) (v := .ref (b 8)) (C := RX12) (T := TX12) (N := 24) hx hb hts hin12 hown hK hP 0 rfl rfl 9 (by decide) (hts (.fieldLink RX12 35 "MissedPointsModel" "tape" "[I") (by decide +kernel)) (fun _ h9 => h9) rfl dX12_goesOn_138 ?_
            refine lv_aload_n hx hb dX12_goesOn_141 rfl (lv_at hl 0 rfl) ?_
            refine va_get (D := D) (ci := 12) (v := .int y0_kto) (C := RX12) (T := TX12) (N := 24) hx hb hts hin12 hown hK hP 0 rfl rfl 12 (by decide) (hts (.fieldLink RX12 169 "MissedPointsModel" "to" "I") (by decide +kernel)) (fun _ h9 => h9) rfl dX12_goesOn_142 ?_
            refine wk_aldA hx hb hK hP 8 0 rfl rfl (rg_in g23571 (by decide) (by decide)) dX12_goesOn_145 (fun r23572 => ?_)
            refine lv_iconst (v := 3) hx hb dX12_goesOn_146 (by decide) ?_
            refine lv_icmp_ge (tgt := 154) hx hb dX12_goesOn_147 (by decide) (fun c23573 => ?_) (fun c23573 => ?_)
            · have g23574 : Rg 3 2147483647 r23572 := rg_ler (by decide : Rg 3 3 (3 : Int32)) (rg_any r23572) c23573 (by decide)
              refine lv_aload_n hx hb dX12_goesOn_154 rfl (lv_at hl 0 rfl) ?_
              refine va_get (D := D) (ci := 12) (v := .ref (b 8)) (C := RX12) (T := TX12) (N := 24) hx hb hts hin12 hown hK hP 0 rfl rfl 9 (by decide) (hts (.fieldLink RX12 35 "MissedPointsModel" "tape" "[I") (by decide +kernel)) (fun _ h9 => h9) rfl dX12_goesOn_155 ?_
              refine lv_aload_n hx hb dX12_goesOn_158 rfl (lv_at hl 0 rfl) ?_
              refine va_get (D := D) (ci := 12) (v := .int y0_kto) (C := RX12) (T := TX12) (N := 24) hx hb hts hin12 hown hK hP 0 rfl rfl 12 (by decide) (hts (.fieldLink RX12 169 "MissedPointsModel" "to" "I") (by decide +kernel)) (fun _ h9 => h9) rfl dX12_goesOn_159 ?_
              refine wk_aldA hx hb hK hP 8 0 rfl rfl (rg_in g23571 (by decide) (by decide)) dX12_goesOn_162 (fun r23575 => ?_)
              refine va_put (D := D) (ci := 12) (v := .int r23575) (ty := .int) (C := RX12) (T := TX12) (N := 24) hx hb hts hin12 tyX12 tyX12_ok nmX12 hown hK hP hD hS 0 rfl rfl 13 (by decide) (hts (.fieldLink RX12 181 "MissedPointsModel" "token" "I") (by decide +kernel)) (fun _ h9 => h9) rfl (by decide +kernel) rfl rfl (Nat.le_of_ble_eq_true rfl) dX12_goesOn_163 (fun H locs hP hD hS => ?_)
              have hP : va_P D cls (wM cI b (mkM l_m l_z l_tp l_hs y0_kto r23575 (0 : Int32) l_so l_sz l_kp) v) H := hP
              have hD : va_D A (wM cI b (mkM l_m l_z l_tp l_hs y0_kto r23575 (0 : Int32) l_so l_sz l_kp) v) := hD
              refine lv_aload_n hx hb dX12_goesOn_166 rfl (lv_at hl 0 rfl) ?_
              refine lv_dup hx hb dX12_goesOn_167 rfl ?_
              refine va_get (D := D) (ci := 12) (v := .int y0_kto) (C := RX12) (T := TX12) (N := 24) hx hb hts hin12 hown hK hP 0 rfl rfl 12 (by decide) (hts (.fieldLink RX12 169 "MissedPointsModel" "to" "I") (by decide +kernel)) (fun _ h9 => h9) rfl dX12_goesOn_168 ?_
              refine lv_iconst (v := 1) hx hb dX12_goesOn_171 (by decide) ?_
              refine wk_iadd (e1 := 1) (f := 120) hx hb dX12_goesOn_172 g23571 (by decide : Rg 1 1 (1 : Int32)) (by decide) (fun r23576 hr23576 er23576 qr23576 => ?_)
              refine va_put (D := D) (ci := 12) (v := .int r23576) (ty := .int) (C := RX12) (T := TX12) (N := 24) hx hb hts hin12 tyX12 tyX12_ok nmX12 hown hK hP hD hS 0 rfl rfl 12 (by decide) (hts (.fieldLink RX12 169 "MissedPointsModel" "to" "I") (by decide +kernel)) (fun _ h9 => h9) rfl (by decide +kernel) rfl rfl (Nat.le_of_ble_eq_true rfl) dX12_goesOn_173 (fun H locs hP hD hS => ?_)
              have hP : va_P D cls (wM cI b (mkM l_m l_z l_tp l_hs r23576 r23575 (0 : Int32) l_so l_sz l_kp) v) H := hP
              have hD : va_D A (wM cI b (mkM l_m l_z l_tp l_hs r23576 r23575 (0 : Int32) l_so l_sz l_kp) v) := hD
              subst hAe
              exact W.vret hx hb hr (fun t ht hW => ⟨⟨(r23576, r23575, (0 : Int32), v), rfl, ⟨hV, (show Rg 0 120 r23576 from rg_w hr23576 (by decide) (by decide)), (show l_to.toInt ≤ r23576.toInt ∧ r23576.toInt ≤ l_tp.toInt ∧ (¬ r23575.toInt = 0 → l_to.toInt < r23576.toInt) from by have y90 : r23559.toInt = (0 : Int32).toInt := congrArg Int32.toInt c23561; have y91 : ¬ y0_kto.toInt = l_tp.toInt := fun z => c23565 (Int32.toInt_inj.mp z); have y92 : r23566.toInt = (0 : Int32).toInt := congrArg Int32.toInt c23568; have y93 : (3 : Int32).toInt ≤ r23572.toInt := (lz_le _ _).mp c23573; have y94 : Rg 0 0 r23559 := g23563; have y95 : Rg 0 0 r23566 := g23570; have y96 : Rg 0 119 y0_kto := g23571; have y97 : Rg 3 2147483647 r23572 := g23574; have y98 : Rg 0 12 l_m := p_m; have y99 : Rg 0 120 l_tp := p_tp; have y910 : Rg 1 120 r23576 := hr23576; have y9c11 : (0 : Int32).toInt = 0 := (by decide); have y9c12 : (1 : Int32).toInt = 1 := (by decide); have y9c13 : (3 : Int32).toInt = 3 := (by decide); have y9c14 : (32 : Int32).toInt = 32 := (by decide); have y9c15 : (48 : Int32).toInt = 48 := (by decide); have y9c16 : (57 : Int32).toInt = 57 := (by decide); omega)⟩, by rw [ht]; exact hP, hD⟩, hS.F ht⟩) hS.2.2 dX12_goesOn_176
            · have g23577 : Rg (-2147483648) 2 r23572 := rg_ltl (rg_any r23572) (by decide : Rg 3 3 (3 : Int32)) (rg_nle c23573) (by decide)
              refine lv_iconst (v := 2) hx hb dX12_goesOn_150 (by decide) ?_
              refine lv_goto (tgt := 163) hx hb dX12_goesOn_151 (by decide) ?_
              refine va_put (D := D) (ci := 12) (v := .int 2) (ty := .int) (C := RX12) (T := TX12) (N := 24) hx hb hts hin12 tyX12 tyX12_ok nmX12 hown hK hP hD hS 0 rfl rfl 13 (by decide) (hts (.fieldLink RX12 181 "MissedPointsModel" "token" "I") (by decide +kernel)) (fun _ h9 => h9) rfl (by decide +kernel) rfl rfl (Nat.le_of_ble_eq_true rfl) dX12_goesOn_163 (fun H locs hP hD hS => ?_)
              have hP : va_P D cls (wM cI b (mkM l_m l_z l_tp l_hs y0_kto (2 : Int32) (0 : Int32) l_so l_sz l_kp) v) H := hP
              have hD : va_D A (wM cI b (mkM l_m l_z l_tp l_hs y0_kto (2 : Int32) (0 : Int32) l_so l_sz l_kp) v) := hD
              refine lv_aload_n hx hb dX12_goesOn_166 rfl (lv_at hl 0 rfl) ?_
              refine lv_dup hx hb dX12_goesOn_167 rfl ?_
              refine va_get (D := D) (ci := 12) (v := .int y0_kto) (C := RX12) (T := TX12) (N := 24) hx hb hts hin12 hown hK hP 0 rfl rfl 12 (by decide) (hts (.fieldLink RX12 169 "MissedPointsModel" "to" "I") (by decide +kernel)) (fun _ h9 => h9) rfl dX12_goesOn_168 ?_
              refine lv_iconst (v := 1) hx hb dX12_goesOn_171 (by decide) ?_
              refine wk_iadd (e1 := 1) (f := 120) hx hb dX12_goesOn_172 g23571 (by decide : Rg 1 1 (1 : Int32)) (by decide) (fun r23578 hr23578 er23578 qr23578 => ?_)
              refine va_put (D := D) (ci := 12) (v := .int r23578) (ty := .int) (C := RX12) (T := TX12) (N := 24) hx hb hts hin12 tyX12 tyX12_ok nmX12 hown hK hP hD hS 0 rfl rfl 12 (by decide) (hts (.fieldLink RX12 169 "MissedPointsModel" "to" "I") (by decide +kernel)) (fun _ h9 => h9) rfl (by decide +kernel) rfl rfl (Nat.le_of_ble_eq_true rfl) dX12_goesOn_173 (fun H locs hP hD hS => ?_)
              have hP : va_P D cls (wM cI b (mkM l_m l_z l_tp l_hs r23578 (2 : Int32) (0 : Int32) l_so l_sz l_kp) v) H := hP
              have hD : va_D A (wM cI b (mkM l_m l_z l_tp l_hs r23578 (2 : Int32) (0 : Int32) l_so l_sz l_kp) v) := hD
              subst hAe
              exact W.vret hx hb hr (fun t ht hW => ⟨⟨(r23578, (2 : Int32), (0 : Int32), v), rfl, ⟨hV, (show Rg 0 120 r23578 from rg_w hr23578 (by decide) (by decide)), (show l_to.toInt ≤ r23578.toInt ∧ r23578.toInt ≤ l_tp.toInt ∧ (¬ (2 : Int32).toInt = 0 → l_to.toInt < r23578.toInt) from by have y90 : r23559.toInt = (0 : Int32).toInt := congrArg Int32.toInt c23561; have y91 : ¬ y0_kto.toInt = l_tp.toInt := fun z => c23565 (Int32.toInt_inj.mp z); have y92 : r23566.toInt = (0 : Int32).toInt := congrArg Int32.toInt c23568; have y93 : r23572.toInt < (3 : Int32).toInt := (lz_lt _ _).mp (rg_nle c23573); have y94 : Rg 0 0 r23559 := g23563; have y95 : Rg 0 0 r23566 := g23570; have y96 : Rg 0 119 y0_kto := g23571; have y97 : Rg (-2147483648) 2 r23572 := g23577; have y98 : Rg 0 12 l_m := p_m; have y99 : Rg 0 120 l_tp := p_tp; have y910 : Rg 1 120 r23578 := hr23578; have y9c11 : (0 : Int32).toInt = 0 := (by decide); have y9c12 : (1 : Int32).toInt = 1 := (by decide); have y9c13 : (2 : Int32).toInt = 2 := (by decide); have y9c14 : (3 : Int32).toInt = 3 := (by decide); have y9c15 : (32 : Int32).toInt = 32 := (by decide); have y9c16 : (48 : Int32).toInt = 48 := (by decide); have y9c17 : (57 : Int32).toInt = 57 := (by decide); omega)⟩, by rw [ht]; exact hP, hD⟩, hS.F ht⟩) hS.2.2 dX12_goesOn_176
          · have i23579 := i23567.1 c23568
            have g23580 : Rg 0 119 y0_kto := by have y90 : r23559.toInt = (0 : Int32).toInt := congrArg Int32.toInt c23561; have y91 : ¬ y0_kto.toInt = l_tp.toInt := fun z => c23565 (Int32.toInt_inj.mp z); have y92 : Rg 0 0 r23559 := g23563; have y93 : Rg 0 12 l_m := p_m; have y94 : Rg 0 120 l_tp := p_tp; have y95 : Rg 1 120 y0_kto := g0_kto; have y96 : Rg 1 120 y0_kto := g0_kto; have y9c7 : (0 : Int32).toInt = 0 := (by decide); have y9c8 : (1 : Int32).toInt = 1 := (by decide); have y9c9 : (32 : Int32).toInt = 32 := (by decide); exact ⟨by omega, by omega⟩
            have g23581 : Rg 1 1 r23566 := rg_ne_lo (k := 0) hr23566.1 (by decide) c23568 (by decide)
            refine lv_aload_n hx hb dX12_goesOn_67 rfl (lv_at hl 0 rfl) ?_
            refine lv_iconst (v := 1) hx hb dX12_goesOn_68 (by decide) ?_
            refine va_put (D := D) (ci := 12) (v := .int 1) (ty := .int) (C := RX12) (T := TX12) (N := 24) hx hb hts hin12 tyX12 tyX12_ok nmX12 hown hK hP hD hS 0 rfl rfl 13 (by decide) (hts (.fieldLink RX12 181 "MissedPointsModel" "token" "I") (by decide +kernel)) (fun _ h9 => h9) rfl (by decide +kernel) rfl rfl (Nat.le_of_ble_eq_true rfl) dX12_goesOn_69 (fun H locs hP hD hS => ?_)
            have hP : va_P D cls (wM cI b (mkM l_m l_z l_tp l_hs y0_kto (1 : Int32) (0 : Int32) l_so l_sz l_kp) v) H := hP
            have hD : va_D A (wM cI b (mkM l_m l_z l_tp l_hs y0_kto (1 : Int32) (0 : Int32) l_so l_sz l_kp) v) := hD
            exact lp72 121 y0_kto (0 : Int32) v _ _ ls (show Rg 0 120 y0_kto from rg_w g23580 (by decide) (by decide)) (by have y90 : r23559.toInt = (0 : Int32).toInt := congrArg Int32.toInt c23561; have y91 : ¬ y0_kto.toInt = l_tp.toInt := fun z => c23565 (Int32.toInt_inj.mp z); have y92 : ¬ r23566.toInt = (0 : Int32).toInt := fun z => c23568 (Int32.toInt_inj.mp z); have y93 : Rg 0 0 r23559 := g23563; have y94 : Rg 0 119 y0_kto := g23580; have y95 : Rg 1 1 r23566 := g23581; have y96 : Rg 0 12 l_m := p_m; have y97 : Rg 0 120 l_tp := p_tp; have y98 : Rg 0 119 y0_kto := g23580; have y9c9 : (0 : Int32).toInt = 0 := (by decide); have y9c10 : (1 : Int32).toInt = 1 := (by decide); have y9c11 : (32 : Int32).toInt = 32 := (by decide); have y9c12 : (48 : Int32).toInt = 48 := (by decide); have y9c13 : (57 : Int32).toInt = 57 := (by decide); exact ⟨by omega, by omega, Or.inr ⟨by omega, by omega, by omega⟩⟩) hV hP hD hS (lv_sub (l' := [(0, .ref (b 0))]) hl [0] rfl) (me_i (show Rg 0 120 y0_kto from rg_w g23580 (by decide) (by decide)) (by decide))
        · have g23582 : Rg 1 120 l_tp := wk_eqr g0_kto p_tp c23565 (by decide)
          refine lv_aload_n hx hb dX12_goesOn_48 rfl (lv_at hl 0 rfl) ?_
          refine lv_iconst (v := 0) hx hb dX12_goesOn_49 (by decide) ?_
          refine va_put (D := D) (ci := 12) (v := .int 0) (ty := .int) (C := RX12) (T := TX12) (N := 24) hx hb hts hin12 tyX12 tyX12_ok nmX12 hown hK hP hD hS 0 rfl rfl 13 (by decide) (hts (.fieldLink RX12 181 "MissedPointsModel" "token" "I") (by decide +kernel)) (fun _ h9 => h9) rfl (by decide +kernel) rfl rfl (Nat.le_of_ble_eq_true rfl) dX12_goesOn_50 (fun H locs hP hD hS => ?_)
          have hP : va_P D cls (wM cI b (mkM l_m l_z l_tp l_hs y0_kto (0 : Int32) (0 : Int32) l_so l_sz l_kp) v) H := hP
          have hD : va_D A (wM cI b (mkM l_m l_z l_tp l_hs y0_kto (0 : Int32) (0 : Int32) l_so l_sz l_kp) v) := hD
          refine lv_goto (tgt := 176) hx hb dX12_goesOn_53 (by decide) ?_
          subst hAe
          exact W.vret hx hb hr (fun t ht hW => ⟨⟨(y0_kto, (0 : Int32), (0 : Int32), v), rfl, ⟨hV, (show Rg 0 120 y0_kto from rg_w g0_kto (by decide) (by decide)), (show l_to.toInt ≤ y0_kto.toInt ∧ y0_kto.toInt ≤ l_tp.toInt ∧ (¬ (0 : Int32).toInt = 0 → l_to.toInt < y0_kto.toInt) from by have y90 : r23559.toInt = (0 : Int32).toInt := congrArg Int32.toInt c23561; have y91 : y0_kto.toInt = l_tp.toInt := congrArg Int32.toInt c23565; have y92 : Rg 0 0 r23559 := g23563; have y93 : Rg 1 120 l_tp := g23582; have y94 : Rg 0 12 l_m := p_m; have y95 : Rg 1 120 l_tp := g23582; have y96 : Rg 1 120 y0_kto := g0_kto; have y9c7 : (0 : Int32).toInt = 0 := (by decide); have y9c8 : (1 : Int32).toInt = 1 := (by decide); have y9c9 : (32 : Int32).toInt = 32 := (by decide); omega)⟩, by rw [ht]; exact hP, hD⟩, hS.F ht⟩) hS.2.2 dX12_goesOn_176
      · have i23583 := i23560.1 c23561
        have g23584 : Rg 0 119 y0_kto := by have y90 : Rg 0 12 l_m := p_m; have y91 : Rg 0 120 l_tp := p_tp; have y92 : Rg 1 120 y0_kto := g0_kto; have y93 : Rg 1 120 y0_kto := g0_kto; have y9c4 : (0 : Int32).toInt = 0 := (by decide); have y9c5 : (1 : Int32).toInt = 1 := (by decide); exact ⟨by omega, by omega⟩
        have g23585 : Rg 1 1 r23559 := rg_ne_lo (k := 0) hr23559.1 (by decide) c23561 (by decide)
        refine lv_aload_n hx hb dX12_goesOn_11 rfl (lv_at hl 0 rfl) ?_
        refine lv_dup hx hb dX12_goesOn_12 rfl ?_
        refine va_get (D := D) (ci := 12) (v := .int y0_kto) (C := RX12) (T := TX12) (N := 24) hx hb hts hin12 hown hK hP 0 rfl rfl 12 (by decide) (hts (.fieldLink RX12 169 "MissedPointsModel" "to" "I") (by decide +kernel)) (fun _ h9 => h9) rfl dX12_goesOn_13 ?_
        refine lv_iconst (v := 1) hx hb dX12_goesOn_16 (by decide) ?_
        refine wk_iadd (e1 := 1) (f := 120) hx hb dX12_goesOn_17 g23584 (by decide : Rg 1 1 (1 : Int32)) (by decide) (fun r23586 hr23586 er23586 qr23586 => ?_)
        refine va_put (D := D) (ci := 12) (v := .int r23586) (ty := .int) (C := RX12) (T := TX12) (N := 24) hx hb hts hin12 tyX12 tyX12_ok nmX12 hown hK hP hD hS 0 rfl rfl 12 (by decide) (hts (.fieldLink RX12 169 "MissedPointsModel" "to" "I") (by decide +kernel)) (fun _ h9 => h9) rfl (by decide +kernel) rfl rfl (Nat.le_of_ble_eq_true rfl) dX12_goesOn_18 (fun H locs hP hD hS => ?_)
        have hP : va_P D cls (wM cI b (mkM l_m l_z l_tp l_hs r23586 l_tk l_wo l_so l_sz l_kp) v) H := hP
        have hD : va_D A (wM cI b (mkM l_m l_z l_tp l_hs r23586 l_tk l_wo l_so l_sz l_kp) v) := hD
        refine lv_goto (tgt := 0) hx hb dX12_goesOn_21 (by decide) ?_
        exact ih0 r23586 v _ _ ls hr23586 (show (l_to.toInt ≤ r23586.toInt ∧ r23586.toInt ≤ l_tp.toInt) from by have y90 : ¬ r23559.toInt = (0 : Int32).toInt := fun z => c23561 (Int32.toInt_inj.mp z); have y91 : Rg 0 119 y0_kto := g23584; have y92 : Rg 1 1 r23559 := g23585; have y93 : Rg 0 12 l_m := p_m; have y94 : Rg 0 120 l_tp := p_tp; have y95 : Rg 1 120 r23586 := hr23586; have y9c6 : (0 : Int32).toInt = 0 := (by decide); have y9c7 : (1 : Int32).toInt = 1 := (by decide); have y9c8 : (32 : Int32).toInt = 32 := (by decide); omega) hV hP hD hS (lv_sub (l' := [(0, .ref (b 0))]) hl [0] rfl) (me_up hm0 er23586 (by decide))
  refine lv_aload_n hx hb dX12_goesOn_0 rfl (lv_at hl 0 rfl) ?_
  refine lv_bipush (v := 32) hx hb dX12_goesOn_1 (by decide) ?_
  refine lv_bipush (v := 32) hx hb dX12_goesOn_3 (by decide) ?_
  refine wk_sv 0 (As := [.int 32, .int 32]) (rest := []) ⟨hx, hb, hml, hown, hts⟩ (w_X12_isAt l D cI cS b (mkM l_m l_z l_tp l_hs l_to l_tk l_wo l_so l_sz l_kp) v (show TyL (mkM l_m l_z l_tp l_hs l_to l_tk l_wo l_so l_sz l_kp) from ⟨p_m, p_tp, p_so, p_sz, p_kp, p_to⟩) hV (32 : Int32) (32 : Int32)) hKK hP (ci := 12) rfl rfl (cwV 2 hts gX12_goesOn_X12_isAt rfl rfl rfl (by decide +kernel) ⟨Nat.le_of_ble_eq_true rfl, Nat.le_of_ble_eq_true rfl⟩) rfl hl.1 rfl (Nat.le_of_ble_eq_true rfl) dX12_goesOn_5 ⟨Nat.le_of_ble_eq_true rfl, Nat.le_of_ble_eq_true rfl⟩ (fun r23587 hr23587 => ?_)
  have i23588 : (¬ r23587 = 0 → (l_to.toInt < l_tp.toInt ∧ (32 : Int32).toInt ≤ (v 8 l_to.toNatClampNeg).toInt ∧ (v 8 l_to.toNatClampNeg).toInt ≤ (32 : Int32).toInt)) ∧ (r23587 = 0 → ¬ (l_to.toInt < l_tp.toInt ∧ (32 : Int32).toInt ≤ (v 8 l_to.toNatClampNeg).toInt ∧ (v 8 l_to.toNatClampNeg).toInt ≤ (32 : Int32).toInt)) := hr23587.2
  refine lv_if_eq (tgt := 24) hx hb dX12_goesOn_8 (by decide) (fun c23589 => ?_) (fun c23589 => ?_)
  · have i23590 := i23588.2 c23589
    have g23591 : Rg 0 0 r23587 := wk_eql hr23587.1 (by decide : Rg 0 0 (0 : Int32)) c23589 (by decide)
    refine lv_aload_n hx hb dX12_goesOn_24 rfl (lv_at hl 0 rfl) ?_
    refine lv_aload_n hx hb dX12_goesOn_25 rfl (lv_at hl 0 rfl) ?_
    refine va_get (D := D) (ci := 12) (v := .int l_to) (C := RX12) (T := TX12) (N := 24) hx hb hts hin12 hown hK hP 0 rfl rfl 12 (by decide) (hts (.fieldLink RX12 169 "MissedPointsModel" "to" "I") (by decide +kernel)) (fun _ h9 => h9) rfl dX12_goesOn_26 ?_
    refine mp_11 hx hb hts hin12 hown hK hP hD hS hV (hts (.fieldLink RX12 175 "MissedPointsModel" "from" "I") (by decide +kernel)) dX12_goesOn_29 (fun v H locs hV ev23592 hP hD hS => ?_)
    refine lv_aload_n hx hb dX12_goesOn_32 rfl (lv_at hl 0 rfl) ?_
    refine lv_iconst (v := 0) hx hb dX12_goesOn_33 (by decide) ?_
    refine va_put (D := D) (ci := 12) (v := .int 0) (ty := .int) (C := RX12) (T := TX12) (N := 24) hx hb hts hin12 tyX12 tyX12_ok nmX12 hown hK hP hD hS 0 rfl rfl 14 (by decide) (hts (.fieldLink RX12 178 "MissedPointsModel" "worth" "I") (by decide +kernel)) (fun _ h9 => h9) rfl (by decide +kernel) rfl rfl (Nat.le_of_ble_eq_true rfl) dX12_goesOn_34 (fun H locs hP hD hS => ?_)
    have hP : va_P D cls (wM cI b (mkM l_m l_z l_tp l_hs l_to l_tk (0 : Int32) l_so l_sz l_kp) v) H := hP
    have hD : va_D A (wM cI b (mkM l_m l_z l_tp l_hs l_to l_tk (0 : Int32) l_so l_sz l_kp) v) := hD
    refine lv_aload_n hx hb dX12_goesOn_37 rfl (lv_at hl 0 rfl) ?_
    refine va_get (D := D) (ci := 12) (v := .int l_to) (C := RX12) (T := TX12) (N := 24) hx hb hts hin12 hown hK hP 0 rfl rfl 12 (by decide) (hts (.fieldLink RX12 169 "MissedPointsModel" "to" "I") (by decide +kernel)) (fun _ h9 => h9) rfl dX12_goesOn_38 ?_
    refine lv_aload_n hx hb dX12_goesOn_41 rfl (lv_at hl 0 rfl) ?_
    refine va_get (D := D) (ci := 12) (v := .int l_tp) (C := RX12) (T := TX12) (N := 24) hx hb hts hin12 hown hK hP 0 rfl rfl 10 (by decide) (hts (.fieldLink RX12 101 "MissedPointsModel" "taped" "I") (by decide +kernel)) (fun _ h9 => h9) rfl dX12_goesOn_42 ?_
    refine lv_icmp_ne (tgt := 56) hx hb dX12_goesOn_45 (by decide) (fun c23593 => ?_) (fun c23593 => ?_)
    · refine lv_aload_n hx hb dX12_goesOn_56 rfl (lv_at hl 0 rfl) ?_
      refine lv_bipush (v := 48) hx hb dX12_goesOn_57 (by decide) ?_
      refine lv_bipush (v := 57) hx hb dX12_goesOn_59 (by decide) ?_
      refine wk_sv 0 (As := [.int 48, .int 57]) (rest := []) ⟨hx, hb, hml, hown, hts⟩ (w_X12_isAt l D cI cS b (mkM l_m l_z l_tp l_hs l_to l_tk (0 : Int32) l_so l_sz l_kp) v (show TyL (mkM l_m l_z l_tp l_hs l_to l_tk (0 : Int32) l_so l_sz l_kp) from ⟨p_m, p_tp, p_so, p_sz, p_kp, p_to⟩) hV (48 : Int32) (57 : Int32)) hKK hP (ci := 12) rfl rfl (cwV 2 hts gX12_goesOn_X12_isAt rfl rfl rfl (by decide +kernel) ⟨Nat.le_of_ble_eq_true rfl, Nat.le_of_ble_eq_true rfl⟩) rfl hl.1 rfl (Nat.le_of_ble_eq_true rfl) dX12_goesOn_61 ⟨Nat.le_of_ble_eq_true rfl, Nat.le_of_ble_eq_true rfl⟩ (fun r23594 hr23594 => ?_)
      have i23595 : (¬ r23594 = 0 → (l_to.toInt < l_tp.toInt ∧ (48 : Int32).toInt ≤ (v 8 l_to.toNatClampNeg).toInt ∧ (v 8 l_to.toNatClampNeg).toInt ≤ (57 : Int32).toInt)) ∧ (r23594 = 0 → ¬ (l_to.toInt < l_tp.toInt ∧ (48 : Int32).toInt ≤ (v 8 l_to.toNatClampNeg).toInt ∧ (v 8 l_to.toNatClampNeg).toInt ≤ (57 : Int32).toInt)) := hr23594.2
      refine lv_if_eq (tgt := 136) hx hb dX12_goesOn_64 (by decide) (fun c23596 => ?_) (fun c23596 => ?_)
      · have i23597 := i23595.2 c23596
        have g23598 : Rg 0 0 r23594 := wk_eql hr23594.1 (by decide : Rg 0 0 (0 : Int32)) c23596 (by decide)
        have g23599 : Rg 0 119 l_to := by have y90 : r23587.toInt = (0 : Int32).toInt := congrArg Int32.toInt c23589; have y91 : ¬ l_to.toInt = l_tp.toInt := fun z => c23593 (Int32.toInt_inj.mp z); have y92 : r23594.toInt = (0 : Int32).toInt := congrArg Int32.toInt c23596; have y93 : Rg 0 0 r23587 := g23591; have y94 : Rg 0 0 r23594 := g23598; have y95 : Rg 0 12 l_m := p_m; have y96 : Rg 0 120 l_tp := p_tp; have y97 : Rg 0 120 l_to := p_to; have y98 : Rg 0 120 l_to := p_to; have y9c9 : (0 : Int32).toInt = 0 := (by decide); have y9c10 : (1 : Int32).toInt = 1 := (by decide); have y9c11 : (32 : Int32).toInt = 32 := (by decide); have y9c12 : (48 : Int32).toInt = 48 := (by decide); have y9c13 : (57 : Int32).toInt = 57 := (by decide); exact ⟨by omega, by omega⟩
        refine lv_aload_n hx hb dX12_goesOn_136 rfl (lv_at hl 0 rfl) ?_
        refine lv_aload_n hx hb dX12_goesOn_137 rfl (lv_at hl 0 rfl) ?_
        refine va_get (D := D) (ci := 12) (v := .ref (b 8)) (C := RX12) (T := TX12) (N := 24) hx hb hts hin12 hown hK hP 0 rfl rfl 9 (by decide) (hts (.fieldLink RX12 35 "MissedPointsModel" "tape" "[I") (by decide +kernel)) (fun _ h9 => h9) rfl dX12_goesOn_138 ?_
        refine lv_aload_n hx hb dX12_goesOn_141 rfl (lv_at hl 0 rfl) ?_
        refine va_get (D := D) (ci := 12) (v := .int l_to) (C := RX12) (T := TX12) (N := 24) hx hb hts hin12 hown hK hP 0 rfl rfl 12 (by decide) (hts (.fieldLink RX12 169 "MissedPointsModel" "to" "I") (by decide +kernel)) (fun _ h9 => h9) rfl dX12_goesOn_142 ?_
        refine wk_aldA hx hb hK hP 8 0 rfl rfl (rg_in g23599 (by decide) (by decide)) dX12_goesOn_145 (fun r23600 => ?_)
        refine lv_iconst (v := 3) hx hb dX12_goesOn_146 (by decide) ?_
        refine lv_icmp_ge (tgt := 154) hx hb dX12_goesOn_147 (by decide) (fun c23601 => ?_) (fun c23601 => ?_)
        · have g23602 : Rg 3 2147483647 r23600 := rg_ler (by decide : Rg 3 3 (3 : Int32)) (rg_any r23600) c23601 (by decide)
          refine lv_aload_n hx hb dX12_goesOn_154 rfl (lv_at hl 0 rfl) ?_
          refine va_get (D := D) (ci := 12) (v := .ref (b 8)) (C := RX12) (T := TX12) (N := 24) hx hb hts hin12 hown hK hP 0 rfl rfl 9 (by decide) (hts (.fieldLink RX12 35 "MissedPointsModel" "tape" "[I") (by decide +kernel)) (fun _ h9 => h9) rfl dX12_goesOn_155 ?_
          refine lv_aload_n hx hb dX12_goesOn_158 rfl (lv_at hl 0 rfl) ?_
          refine va_get (D := D) (ci := 12) (v := .int l_to) (C := RX12) (T := TX12) (N := 24) hx hb hts hin12 hown hK hP 0 rfl rfl 12 (by decide) (hts (.fieldLink RX12 169 "MissedPointsModel" "to" "I") (by decide +kernel)) (fun _ h9 => h9) rfl dX12_goesOn_159 ?_
          refine wk_aldA hx hb hK hP 8 0 rfl rfl (rg_in g23599 (by decide) (by decide)) dX12_goesOn_162 (fun r23603 => ?_)
          refine va_put (D := D) (ci := 12) (v := .int r23603) (ty := .int) (C := RX12) (T := TX12) (N := 24) hx hb hts hin12 tyX12 tyX12_ok nmX12 hown hK hP hD hS 0 rfl rfl 13 (by decide) (hts (.fieldLink RX12 181 "MissedPointsModel" "token" "I") (by decide +kernel)) (fun _ h9 => h9) rfl (by decide +kernel) rfl rfl (Nat.le_of_ble_eq_true rfl) dX12_goesOn_163 (fun H locs hP hD hS => ?_)
          have hP : va_P D cls (wM cI b (mkM l_m l_z l_tp l_hs l_to r23603 (0 : Int32) l_so l_sz l_kp) v) H := hP
          have hD : va_D A (wM cI b (mkM l_m l_z l_tp l_hs l_to r23603 (0 : Int32) l_so l_sz l_kp) v) := hD
          refine lv_aload_n hx hb dX12_goesOn_166 rfl (lv_at hl 0 rfl) ?_
          refine lv_dup hx hb dX12_goesOn_167 rfl ?_
          refine va_get (D := D) (ci := 12) (v := .int l_to) (C := RX12) (T := TX12) (N := 24) hx hb hts hin12 hown hK hP 0 rfl rfl 12 (by decide) (hts (.fieldLink RX12 169 "MissedPointsModel" "to" "I") (by decide +kernel)) (fun _ h9 => h9) rfl dX12_goesOn_168 ?_
          refine lv_iconst (v := 1) hx hb dX12_goesOn_171 (by decide) ?_
          refine wk_iadd (e1 := 1) (f := 120) hx hb dX12_goesOn_172 g23599 (by decide : Rg 1 1 (1 : Int32)) (by decide) (fun r23604 hr23604 er23604 qr23604 => ?_)
          refine va_put (D := D) (ci := 12) (v := .int r23604) (ty := .int) (C := RX12) (T := TX12) (N := 24) hx hb hts hin12 tyX12 tyX12_ok nmX12 hown hK hP hD hS 0 rfl rfl 12 (by decide) (hts (.fieldLink RX12 169 "MissedPointsModel" "to" "I") (by decide +kernel)) (fun _ h9 => h9) rfl (by decide +kernel) rfl rfl (Nat.le_of_ble_eq_true rfl) dX12_goesOn_173 (fun H locs hP hD hS => ?_)
          have hP : va_P D cls (wM cI b (mkM l_m l_z l_tp l_hs r23604 r23603 (0 : Int32) l_so l_sz l_kp) v) H := hP
          have hD : va_D A (wM cI b (mkM l_m l_z l_tp l_hs r23604 r23603 (0 : Int32) l_so l_sz l_kp) v) := hD
          subst hAe
          exact W.vret hx hb hr (fun t ht hW => ⟨⟨(r23604, r23603, (0 : Int32), v), rfl, ⟨hV, (show Rg 0 120 r23604 from rg_w hr23604 (by decide) (by decide)), (show l_to.toInt ≤ r23604.toInt ∧ r23604.toInt ≤ l_tp.toInt ∧ (¬ r23603.toInt = 0 → l_to.toInt < r23604.toInt) from by have y90 : r23587.toInt = (0 : Int32).toInt := congrArg Int32.toInt c23589; have y91 : ¬ l_to.toInt = l_tp.toInt := fun z => c23593 (Int32.toInt_inj.mp z); have y92 : r23594.toInt = (0 : Int32).toInt := congrArg Int32.toInt c23596; have y93 : (3 : Int32).toInt ≤ r23600.toInt := (lz_le _ _).mp c23601; have y94 : Rg 0 0 r23587 := g23591; have y95 : Rg 0 0 r23594 := g23598; have y96 : Rg 0 119 l_to := g23599; have y97 : Rg 3 2147483647 r23600 := g23602; have y98 : Rg 0 12 l_m := p_m; have y99 : Rg 0 120 l_tp := p_tp; have y910 : Rg 1 120 r23604 := hr23604; have y9c11 : (0 : Int32).toInt = 0 := (by decide); have y9c12 : (1 : Int32).toInt = 1 := (by decide); have y9c13 : (3 : Int32).toInt = 3 := (by decide); have y9c14 : (32 : Int32).toInt = 32 := (by decide); have y9c15 : (48 : Int32).toInt = 48 := (by decide); have y9c16 : (57 : Int32).toInt = 57 := (by decide); omega)⟩, by rw [ht]; exact hP, hD⟩, hS.F ht⟩) hS.2.2 dX12_goesOn_176
        · have g23605 : Rg (-2147483648) 2 r23600 := rg_ltl (rg_any r23600) (by decide : Rg 3 3 (3 : Int32)) (rg_nle c23601) (by decide)
          refine lv_iconst (v := 2) hx hb dX12_goesOn_150 (by decide) ?_
          refine lv_goto (tgt := 163) hx hb dX12_goesOn_151 (by decide) ?_
          refine va_put (D := D) (ci := 12) (v := .int 2) (ty := .int) (C := RX12) (T := TX12) (N := 24) hx hb hts hin12 tyX12 tyX12_ok nmX12 hown hK hP hD hS 0 rfl rfl 13 (by decide) (hts (.fieldLink RX12 181 "MissedPointsModel" "token" "I") (by decide +kernel)) (fun _ h9 => h9) rfl (by decide +kernel) rfl rfl (Nat.le_of_ble_eq_true rfl) dX12_goesOn_163 (fun H locs hP hD hS => ?_)
          have hP : va_P D cls (wM cI b (mkM l_m l_z l_tp l_hs l_to (2 : Int32) (0 : Int32) l_so l_sz l_kp) v) H := hP
          have hD : va_D A (wM cI b (mkM l_m l_z l_tp l_hs l_to (2 : Int32) (0 : Int32) l_so l_sz l_kp) v) := hD
          refine lv_aload_n hx hb dX12_goesOn_166 rfl (lv_at hl 0 rfl) ?_
          refine lv_dup hx hb dX12_goesOn_167 rfl ?_
          refine va_get (D := D) (ci := 12) (v := .int l_to) (C := RX12) (T := TX12) (N := 24) hx hb hts hin12 hown hK hP 0 rfl rfl 12 (by decide) (hts (.fieldLink RX12 169 "MissedPointsModel" "to" "I") (by decide +kernel)) (fun _ h9 => h9) rfl dX12_goesOn_168 ?_
          refine lv_iconst (v := 1) hx hb dX12_goesOn_171 (by decide) ?_
          refine wk_iadd (e1 := 1) (f := 120) hx hb dX12_goesOn_172 g23599 (by decide : Rg 1 1 (1 : Int32)) (by decide) (fun r23606 hr23606 er23606 qr23606 => ?_)
          refine va_put (D := D) (ci := 12) (v := .int r23606) (ty := .int) (C := RX12) (T := TX12) (N := 24) hx hb hts hin12 tyX12 tyX12_ok nmX12 hown hK hP hD hS 0 rfl rfl 12 (by decide) (hts (.fieldLink RX12 169 "MissedPointsModel" "to" "I") (by decide +kernel)) (fun _ h9 => h9) rfl (by decide +kernel) rfl rfl (Nat.le_of_ble_eq_true rfl) dX12_goesOn_173 (fun H locs hP hD hS => ?_)
          have hP : va_P D cls (wM cI b (mkM l_m l_z l_tp l_hs r23606 (2 : Int32) (0 : Int32) l_so l_sz l_kp) v) H := hP
          have hD : va_D A (wM cI b (mkM l_m l_z l_tp l_hs r23606 (2 : Int32) (0 : Int32) l_so l_sz l_kp) v) := hD
          subst hAe
          exact W.vret hx hb hr (fun t ht hW => ⟨⟨(r23606, (2 : Int32), (0 : Int32), v), rfl, ⟨hV, (show Rg 0 120 r23606 from rg_w hr23606 (by decide) (by decide)), (show l_to.toInt ≤ r23606.toInt ∧ r23606.toInt ≤ l_tp.toInt ∧ (¬ (2 : Int32).toInt = 0 → l_to.toInt < r23606.toInt) from by have y90 : r23587.toInt = (0 : Int32).toInt := congrArg Int32.toInt c23589; have y91 : ¬ l_to.toInt = l_tp.toInt := fun z => c23593 (Int32.toInt_inj.mp z); have y92 : r23594.toInt = (0 : Int32).toInt := congrArg Int32.toInt c23596; have y93 : r23600.toInt < (3 : Int32).toInt := (lz_lt _ _).mp (rg_nle c23601); have y94 : Rg 0 0 r23587 := g23591; have y95 : Rg 0 0 r23594 := g23598; have y96 : Rg 0 119 l_to := g23599; have y97 : Rg (-2147483648) 2 r23600 := g23605; have y98 : Rg 0 12 l_m := p_m; have y99 : Rg 0 120 l_tp := p_tp; have y910 : Rg 1 120 r23606 := hr23606; have y9c11 : (0 : Int32).toInt = 0 := (by decide); have y9c12 : (1 : Int32).toInt = 1 := (by decide); have y9c13 : (2 : Int32).toInt = 2 := (by decide); have y9c14 : (3 : Int32).toInt = 3 := (by decide); have y9c15 : (32 : Int32).toInt = 32 := (by decide); have y9c16 : (48 : Int32).toInt = 48 := (by decide); have y9c17 : (57 : Int32).toInt = 57 := (by decide); omega)⟩, by rw [ht]; exact hP, hD⟩, hS.F ht⟩) hS.2.2 dX12_goesOn_176
      · have i23607 := i23595.1 c23596
        have g23608 : Rg 0 119 l_to := by have y90 : r23587.toInt = (0 : Int32).toInt := congrArg Int32.toInt c23589; have y91 : ¬ l_to.toInt = l_tp.toInt := fun z => c23593 (Int32.toInt_inj.mp z); have y92 : Rg 0 0 r23587 := g23591; have y93 : Rg 0 12 l_m := p_m; have y94 : Rg 0 120 l_tp := p_tp; have y95 : Rg 0 120 l_to := p_to; have y96 : Rg 0 120 l_to := p_to; have y9c7 : (0 : Int32).toInt = 0 := (by decide); have y9c8 : (1 : Int32).toInt = 1 := (by decide); have y9c9 : (32 : Int32).toInt = 32 := (by decide); exact ⟨by omega, by omega⟩
        have g23609 : Rg 1 1 r23594 := rg_ne_lo (k := 0) hr23594.1 (by decide) c23596 (by decide)
        refine lv_aload_n hx hb dX12_goesOn_67 rfl (lv_at hl 0 rfl) ?_
        refine lv_iconst (v := 1) hx hb dX12_goesOn_68 (by decide) ?_
        refine va_put (D := D) (ci := 12) (v := .int 1) (ty := .int) (C := RX12) (T := TX12) (N := 24) hx hb hts hin12 tyX12 tyX12_ok nmX12 hown hK hP hD hS 0 rfl rfl 13 (by decide) (hts (.fieldLink RX12 181 "MissedPointsModel" "token" "I") (by decide +kernel)) (fun _ h9 => h9) rfl (by decide +kernel) rfl rfl (Nat.le_of_ble_eq_true rfl) dX12_goesOn_69 (fun H locs hP hD hS => ?_)
        have hP : va_P D cls (wM cI b (mkM l_m l_z l_tp l_hs l_to (1 : Int32) (0 : Int32) l_so l_sz l_kp) v) H := hP
        have hD : va_D A (wM cI b (mkM l_m l_z l_tp l_hs l_to (1 : Int32) (0 : Int32) l_so l_sz l_kp) v) := hD
        exact lp72 121 l_to (0 : Int32) v _ _ ls (show Rg 0 120 l_to from rg_w g23608 (by decide) (by decide)) (by have y90 : r23587.toInt = (0 : Int32).toInt := congrArg Int32.toInt c23589; have y91 : ¬ l_to.toInt = l_tp.toInt := fun z => c23593 (Int32.toInt_inj.mp z); have y92 : ¬ r23594.toInt = (0 : Int32).toInt := fun z => c23596 (Int32.toInt_inj.mp z); have y93 : Rg 0 0 r23587 := g23591; have y94 : Rg 0 119 l_to := g23608; have y95 : Rg 1 1 r23594 := g23609; have y96 : Rg 0 12 l_m := p_m; have y97 : Rg 0 120 l_tp := p_tp; have y98 : Rg 0 119 l_to := g23608; have y9c9 : (0 : Int32).toInt = 0 := (by decide); have y9c10 : (1 : Int32).toInt = 1 := (by decide); have y9c11 : (32 : Int32).toInt = 32 := (by decide); have y9c12 : (48 : Int32).toInt = 48 := (by decide); have y9c13 : (57 : Int32).toInt = 57 := (by decide); exact ⟨by omega, by omega, Or.inr ⟨by omega, by omega, by omega⟩⟩) hV hP hD hS (lv_sub (l' := [(0, .ref (b 0))]) hl [0] rfl) (me_i (show Rg 0 120 l_to from rg_w g23608 (by decide) (by decide)) (by decide))
    · refine lv_aload_n hx hb dX12_goesOn_48 rfl (lv_at hl 0 rfl) ?_
      refine lv_iconst (v := 0) hx hb dX12_goesOn_49 (by decide) ?_
      refine va_put (D := D) (ci := 12) (v := .int 0) (ty := .int) (C := RX12) (T := TX12) (N := 24) hx hb hts hin12 tyX12 tyX12_ok nmX12 hown hK hP hD hS 0 rfl rfl 13 (by decide) (hts (.fieldLink RX12 181 "MissedPointsModel" "token" "I") (by decide +kernel)) (fun _ h9 => h9) rfl (by decide +kernel) rfl rfl (Nat.le_of_ble_eq_true rfl) dX12_goesOn_50 (fun H locs hP hD hS => ?_)
      have hP : va_P D cls (wM cI b (mkM l_m l_z l_tp l_hs l_to (0 : Int32) (0 : Int32) l_so l_sz l_kp) v) H := hP
      have hD : va_D A (wM cI b (mkM l_m l_z l_tp l_hs l_to (0 : Int32) (0 : Int32) l_so l_sz l_kp) v) := hD
      refine lv_goto (tgt := 176) hx hb dX12_goesOn_53 (by decide) ?_
      subst hAe
      exact W.vret hx hb hr (fun t ht hW => ⟨⟨(l_to, (0 : Int32), (0 : Int32), v), rfl, ⟨hV, p_to, (show l_to.toInt ≤ l_to.toInt ∧ l_to.toInt ≤ l_tp.toInt ∧ (¬ (0 : Int32).toInt = 0 → l_to.toInt < l_to.toInt) from by have y90 : r23587.toInt = (0 : Int32).toInt := congrArg Int32.toInt c23589; have y91 : l_to.toInt = l_tp.toInt := congrArg Int32.toInt c23593; have y92 : Rg 0 0 r23587 := g23591; have y93 : Rg 0 12 l_m := p_m; have y94 : Rg 0 120 l_tp := p_tp; have y95 : Rg 0 120 l_to := p_to; have y9c6 : (0 : Int32).toInt = 0 := (by decide); have y9c7 : (1 : Int32).toInt = 1 := (by decide); have y9c8 : (32 : Int32).toInt = 32 := (by decide); omega)⟩, by rw [ht]; exact hP, hD⟩, hS.F ht⟩) hS.2.2 dX12_goesOn_176
  · have i23610 := i23588.1 c23589
    have g23611 : Rg 0 119 l_to := by have y90 : Rg 0 12 l_m := p_m; have y91 : Rg 0 120 l_tp := p_tp; have y92 : Rg 0 120 l_to := p_to; have y93 : Rg 0 120 l_to := p_to; have y9c4 : (0 : Int32).toInt = 0 := (by decide); have y9c5 : (1 : Int32).toInt = 1 := (by decide); exact ⟨by omega, by omega⟩
    have g23612 : Rg 1 1 r23587 := rg_ne_lo (k := 0) hr23587.1 (by decide) c23589 (by decide)
    refine lv_aload_n hx hb dX12_goesOn_11 rfl (lv_at hl 0 rfl) ?_
    refine lv_dup hx hb dX12_goesOn_12 rfl ?_
    refine va_get (D := D) (ci := 12) (v := .int l_to) (C := RX12) (T := TX12) (N := 24) hx hb hts hin12 hown hK hP 0 rfl rfl 12 (by decide) (hts (.fieldLink RX12 169 "MissedPointsModel" "to" "I") (by decide +kernel)) (fun _ h9 => h9) rfl dX12_goesOn_13 ?_
    refine lv_iconst (v := 1) hx hb dX12_goesOn_16 (by decide) ?_
    refine wk_iadd (e1 := 1) (f := 120) hx hb dX12_goesOn_17 g23611 (by decide : Rg 1 1 (1 : Int32)) (by decide) (fun r23613 hr23613 er23613 qr23613 => ?_)
    refine va_put (D := D) (ci := 12) (v := .int r23613) (ty := .int) (C := RX12) (T := TX12) (N := 24) hx hb hts hin12 tyX12 tyX12_ok nmX12 hown hK hP hD hS 0 rfl rfl 12 (by decide) (hts (.fieldLink RX12 169 "MissedPointsModel" "to" "I") (by decide +kernel)) (fun _ h9 => h9) rfl (by decide +kernel) rfl rfl (Nat.le_of_ble_eq_true rfl) dX12_goesOn_18 (fun H locs hP hD hS => ?_)
    have hP : va_P D cls (wM cI b (mkM l_m l_z l_tp l_hs r23613 l_tk l_wo l_so l_sz l_kp) v) H := hP
    have hD : va_D A (wM cI b (mkM l_m l_z l_tp l_hs r23613 l_tk l_wo l_so l_sz l_kp) v) := hD
    refine lv_goto (tgt := 0) hx hb dX12_goesOn_21 (by decide) ?_
    exact lp0 120 r23613 v _ _ ls hr23613 (show (l_to.toInt ≤ r23613.toInt ∧ r23613.toInt ≤ l_tp.toInt) from by have y90 : ¬ r23587.toInt = (0 : Int32).toInt := fun z => c23589 (Int32.toInt_inj.mp z); have y91 : Rg 0 119 l_to := g23611; have y92 : Rg 1 1 r23587 := g23612; have y93 : Rg 0 12 l_m := p_m; have y94 : Rg 0 120 l_tp := p_tp; have y95 : Rg 1 120 r23613 := hr23613; have y9c6 : (0 : Int32).toInt = 0 := (by decide); have y9c7 : (1 : Int32).toInt = 1 := (by decide); have y9c8 : (32 : Int32).toInt = 32 := (by decide); omega) hV hP hD hS (lv_sub (l' := [(0, .ref (b 0))]) hl [0] rfl) (me_i hr23613 (by decide))
set_option maxRecDepth 20000 in
theorem ggX12_pointRead_X12_goesOn : GoodIn wsX12_pointRead wsX12_goesOn := goodIn_r _ [18, 19, 20, 2, 21, 1, 22, 23, 24, 25, 6, 26, 9, 10, 11, 27, 28, 29, 30, 31, 32, 33, 34, 35, 36, 37, 38, 39, 40, 41, 42, 43, 44, 45, 46, 47, 48, 49, 50] rfl (by decide +kernel)
set_option maxRecDepth 20000 in
theorem gX12_pointRead_X12_goesOn : GoodIn wsX12_pointRead (wsV RX12 187 RX12 yX12_goesOn wsX12_goesOn) := goodIn_app (goodIn_of _ (by decide +kernel)) ggX12_pointRead_X12_goesOn
set_option maxRecDepth 20000 in
theorem ggX12_pointRead_X12_has : GoodIn wsX12_pointRead wsX12_has := goodIn_r _ [14] rfl (by decide +kernel)
set_option maxRecDepth 20000 in
theorem gX12_pointRead_X12_has : GoodIn wsX12_pointRead (va_wsS RX12 59 yX12_has wsX12_has) := goodIn_app (goodIn_of _ (by decide +kernel)) ggX12_pointRead_X12_has
set_option maxRecDepth 20000 in
theorem ggX12_pointRead_X12_isPoint : GoodIn wsX12_pointRead wsX12_isPoint := goodIn_r _ [7, 8, 9, 10, 6, 11, 27, 28, 29, 30, 31, 32, 33, 34, 35, 36, 37, 38, 39, 40, 41, 42, 43, 44, 45, 46, 47, 48, 49, 50] rfl (by decide +kernel)
set_option maxRecDepth 20000 in
theorem gX12_pointRead_X12_isPoint : GoodIn wsX12_pointRead (wsV RX12 74 RX12 yX12_isPoint wsX12_isPoint) := goodIn_app (goodIn_of _ (by decide +kernel)) ggX12_pointRead_X12_isPoint
theorem dX12_pointRead_10 : decode cX12_pointRead 10 = .ok (.getfield 178, 3) := by decide +kernel
theorem dX12_pointRead_13 : decode cX12_pointRead 13 = .ok (.invokevirtual 74, 3) := by decide +kernel
theorem dX12_pointRead_16 : decode cX12_pointRead 16 = .ok (.ifCond .eq 14, 3) := by decide +kernel
theorem dX12_pointRead_19 : decode cX12_pointRead 19 = .ok (.iload_n 1, 1) := by decide +kernel
theorem dX12_pointRead_20 : decode cX12_pointRead 20 = .ok (.aload_n 0, 1) := by decide +kernel
theorem dX12_pointRead_21 : decode cX12_pointRead 21 = .ok (.getfield 178, 3) := by decide +kernel
theorem dX12_pointRead_24 : decode cX12_pointRead 24 = .ok (.invokestatic 59, 3) := by decide +kernel
theorem dX12_pointRead_27 : decode cX12_pointRead 27 = .ok (.ifCond .eq 5, 3) := by decide +kernel
theorem dX12_pointRead_32 : decode cX12_pointRead 32 = .ok (.aload_n 0, 1) := by decide +kernel
theorem dX12_pointRead_33 : decode cX12_pointRead 33 = .ok (.getfield 178, 3) := by decide +kernel
theorem dX12_pointRead_36 : decode cX12_pointRead 36 = .ok (.istore_n 2, 1) := by decide +kernel
theorem dX12_pointRead_37 : decode cX12_pointRead 37 = .ok (.aload_n 0, 1) := by decide +kernel
theorem dX12_pointRead_38 : decode cX12_pointRead 38 = .ok (.invokevirtual 187, 3) := by decide +kernel
theorem dX12_pointRead_41 : decode cX12_pointRead 41 = .ok (.iload_n 2, 1) := by decide +kernel
theorem dX12_pointRead_42 : decode cX12_pointRead 42 = .ok (.ireturn, 1) := by decide +kernel
theorem dX12_pointRead_8 : decode cX12_pointRead 8 = .ok (.aload_n 0, 1) := by decide +kernel
theorem dX12_pointRead_9 : decode cX12_pointRead 9 = .ok (.aload_n 0, 1) := by decide +kernel
set_option maxHeartbeats 4000000 in
set_option maxRecDepth 100000 in
theorem w_X12_pointRead (l : Launch) (D : va_G) (cI cS : ClassId) (sz : Nat) (b : Nat → Nat) (l_m l_z l_tp l_hs l_to l_tk l_wo : Int32) (l_so l_sz l_kp : Nat → Int32) (v0 : SU) (hL : TyL (mkM l_m l_z l_tp l_hs l_to l_tk l_wo l_so l_sz l_kp)) (hV : TyV v0) (x0 : Int32) (hto : l_to.toInt ≤ l_tp.toInt) : Met l yX12_pointRead wsX12_pointRead ({ frames := 3, cells := 0, slots := 0, locals := 120 }) (PQ D cI cS (wM cI b (mkM l_m l_z l_tp l_hs l_to l_tk l_wo l_so l_sz l_kp) v0) sz [.ref (b 0), .int x0]) (QF (S := Int32 × Int32 × Int32 × SU) D (wM cI b (mkM l_m l_z l_tp l_hs l_to l_tk l_wo l_so l_sz l_kp) v0) (fun q => wM cI b (mkM l_m l_z l_tp l_hs q.1 q.2.1 q.2.2.1 l_so l_sz l_kp) q.2.2.2) sz (fun r q => TyV q.2.2.2 ∧ Rg (-1) 11 r ∧ Rg 0 120 q.1 ∧ (l_to.toInt ≤ q.1.toInt ∧ q.1.toInt ≤ l_tp.toInt ∧ (¬ r.toInt = -1 → l_tk.toInt = 1 ∧ (¬ q.2.1.toInt = 0 → l_to.toInt < q.1.toInt)) ∧ (r.toInt = -1 → q.1.toInt = l_to.toInt ∧ q.2.1.toInt = l_tk.toInt)))) 0 0 (va_A (wM cI b (mkM l_m l_z l_tp l_hs l_to l_tk l_wo l_so l_sz l_kp) v0) sz) := by
  refine Met.ofW (cc := cX12_pointRead) (maxL := 3) (ret := (some .int)) (by decide) rfl ?_
  intro p e s m args below meth c s₁ B hml hv
  obtain ⟨rfl, hsz, hP, hKK, hD0⟩ := hv
  have hx := B.exec
  have hb := B.bytes
  have hr := B.returns
  have hts := atoms_spec (ws := wsX12_pointRead) B.pre
  have hown : s.vm.findClass RX12 = some m.cls := findClass_of_methodNamed B.named
  have hlocks := B.notSynchronized
  have hK := hKK.1
  have hin12 : ∀ w ∈ wsX120, w ∈ wsX12_pointRead := by decide +kernel
  subst hsz
  have hD := hD0.self (sz := s.heap.size)
  obtain ⟨A, hAe⟩ : ∃ A, A = va_A (wM cI b (mkM l_m l_z l_tp l_hs l_to l_tk l_wo l_so l_sz l_kp) v0) s.heap.size := ⟨_, rfl⟩
  rw [← hAe] at hD
  have hA : ∀ q : Nat, s.heap.size ≤ q → A q := fun q h => by rw [hAe]; exact Or.inr h
  have hS : va_S A s.heap s.heap [] := va_S.rf
  have hl := lv_entry ([.ref (b 0), .int x0]) (n := 3) (Nat.le_of_ble_eq_true rfl)
  rw [lg_entry_eq]
  generalize (lg_sl ([.ref (b 0), .int x0]) ++ List.replicate (3 - (lg_sl ([.ref (b 0), .int x0])).length) Slot.unset).toArray = ls at hl ⊢
  have hl : lv_has ls 3 [(0, .ref (b 0)), (1, .int x0)] := hl
  obtain ⟨v, hv9⟩ : ∃ v : SU, v = v0 := ⟨_, rfl⟩
  rw [← hv9] at hP hD hV
  have p_m : Rg 0 12 l_m := hL.1
  have p_tp : Rg 0 120 l_tp := hL.2.1
  have p_so : Ar (-1) 1 l_so := hL.2.2.1
  have p_sz : Ar 0 40 l_sz := hL.2.2.2.1
  have p_kp : Kp l_kp := hL.2.2.2.2.1
  have p_to : Rg 0 120 l_to := hL.2.2.2.2.2
  refine lv_aload_n hx hb dX12_pointRead_0 rfl (lv_at hl 0 rfl) ?_
  refine va_get (D := D) (ci := 12) (v := .int l_tk) (C := RX12) (T := TX12) (N := 24) hx hb hts hin12 hown hK hP 0 rfl rfl 13 (by decide) (hts (.fieldLink RX12 181 "MissedPointsModel" "token" "I") (by decide +kernel)) (fun _ h9 => h9) rfl dX12_pointRead_1 ?_
  refine lv_iconst (v := 1) hx hb dX12_pointRead_4 (by decide) ?_
  refine lv_icmp_ne (tgt := 30) hx hb dX12_pointRead_5 (by decide) (fun c23630 => ?_) (fun c23630 => ?_)
  · refine lv_iconst (v := (-1)) hx hb dX12_pointRead_30 (by decide) ?_
    subst hAe
    exact W.iret (v := (-1)) hx hb hr (fun t ht hW => ⟨⟨_, (l_to, l_tk, l_wo, v), rfl, ⟨hV, (by decide : Rg (-1) 11 ((-1) : Int32)), p_to, (show l_to.toInt ≤ l_to.toInt ∧ l_to.toInt ≤ l_tp.toInt ∧ (¬ ((-1) : Int32).toInt = -1 → l_tk.toInt = 1 ∧ (¬ l_tk.toInt = 0 → l_to.toInt < l_to.toInt)) ∧ (((-1) : Int32).toInt = -1 → l_to.toInt = l_to.toInt ∧ l_tk.toInt = l_tk.toInt) from by have y90 : ¬ l_tk.toInt = (1 : Int32).toInt := fun z => c23630 (Int32.toInt_inj.mp z); have y91 : Rg 0 12 l_m := p_m; have y92 : Rg 0 120 l_tp := p_tp; have y93 : Rg 0 120 l_to := p_to; have y9c4 : ((-1) : Int32).toInt = -1 := (by decide); have y9c5 : (0 : Int32).toInt = 0 := (by decide); have y9c6 : (1 : Int32).toInt = 1 := (by decide); omega)⟩, by rw [ht]; exact hP, hD⟩, hS.F ht⟩) hS.2.2 dX12_pointRead_31
  · have g23631 : Rg 1 1 l_tk := wk_eql (rg_any l_tk) (by decide : Rg 1 1 (1 : Int32)) c23630 (by decide)
    refine lv_aload_n hx hb dX12_pointRead_8 rfl (lv_at hl 0 rfl) ?_
    refine lv_aload_n hx hb dX12_pointRead_9 rfl (lv_at hl 0 rfl) ?_
    refine va_get (D := D) (ci := 12) (v := .int l_wo) (C := RX12) (T := TX12) (N := 24) hx hb hts hin12 hown hK hP 0 rfl rfl 14 (by decide) (hts (.fieldLink RX12 178 "MissedPointsModel" "worth" "I") (by decide +kernel)) (fun _ h9 => h9) rfl dX12_pointRead_10 ?_
    refine wk_sv 0 (As := [.int l_wo]) (rest := []) ⟨hx, hb, hml, hown, hts⟩ (w_X12_isPoint l D cI cS b (mkM l_m l_z l_tp l_hs l_to l_tk l_wo l_so l_sz l_kp) v (show TyL (mkM l_m l_z l_tp l_hs l_to l_tk l_wo l_so l_sz l_kp) from ⟨p_m, p_tp, p_so, p_sz, p_kp, p_to⟩) hV l_wo) hKK hP (ci := 12) rfl rfl (cwV 1 hts gX12_pointRead_X12_isPoint rfl rfl rfl (by decide +kernel) ⟨Nat.le_of_ble_eq_true rfl, Nat.le_of_ble_eq_true rfl⟩) rfl hl.1 rfl (Nat.le_of_ble_eq_true rfl) dX12_pointRead_13 ⟨Nat.le_of_ble_eq_true rfl, Nat.le_of_ble_eq_true rfl⟩ (fun r23632 hr23632 => ?_)
    refine lv_if_eq (tgt := 30) hx hb dX12_pointRead_16 (by decide) (fun c23633 => ?_) (fun c23633 => ?_)
    · have zt23634 : (l_wo.toInt < 0 ∨ l_m.toInt - 1 < l_wo.toInt) := hr23632.2.2 c23633
      have g23635 : Rg 0 0 r23632 := wk_eql hr23632.1 (by decide : Rg 0 0 (0 : Int32)) c23633 (by decide)
      refine lv_iconst (v := (-1)) hx hb dX12_pointRead_30 (by decide) ?_
      subst hAe
      exact W.iret (v := (-1)) hx hb hr (fun t ht hW => ⟨⟨_, (l_to, l_tk, l_wo, v), rfl, ⟨hV, (by decide : Rg (-1) 11 ((-1) : Int32)), p_to, (show l_to.toInt ≤ l_to.toInt ∧ l_to.toInt ≤ l_tp.toInt ∧ (¬ ((-1) : Int32).toInt = -1 → l_tk.toInt = 1 ∧ (¬ l_tk.toInt = 0 → l_to.toInt < l_to.toInt)) ∧ (((-1) : Int32).toInt = -1 → l_to.toInt = l_to.toInt ∧ l_tk.toInt = l_tk.toInt) from by have y90 : l_tk.toInt = (1 : Int32).toInt := congrArg Int32.toInt c23630; have y91 : r23632.toInt = (0 : Int32).toInt := congrArg Int32.toInt c23633; have y92 : Rg 1 1 l_tk := g23631; have y93 : Rg 0 0 r23632 := g23635; have y94 : Rg 0 12 l_m := p_m; have y95 : Rg 0 120 l_tp := p_tp; have y96 : Rg 0 120 l_to := p_to; have y97 : Rg 1 1 l_tk := g23631; have y9c8 : ((-1) : Int32).toInt = -1 := (by decide); have y9c9 : (0 : Int32).toInt = 0 := (by decide); have y9c10 : (1 : Int32).toInt = 1 := (by decide); omega)⟩, by rw [ht]; exact hP, hD⟩, hS.F ht⟩) hS.2.2 dX12_pointRead_31
    · have g23636 : Rg 0 11 l_wo := (hr23632.2.1 c23633)
      have g23637 : Rg 1 1 r23632 := rg_ne_lo (k := 0) hr23632.1 (by decide) c23633 (by decide)
      refine lv_iload_n hx hb dX12_pointRead_19 rfl (lv_at hl 1 rfl) ?_
      refine lv_aload_n hx hb dX12_pointRead_20 rfl (lv_at hl 0 rfl) ?_
      refine va_get (D := D) (ci := 12) (v := .int l_wo) (C := RX12) (T := TX12) (N := 24) hx hb hts hin12 hown hK hP 0 rfl rfl 14 (by decide) (hts (.fieldLink RX12 178 "MissedPointsModel" "worth" "I") (by decide +kernel)) (fun _ h9 => h9) rfl dX12_pointRead_21 ?_
      refine lz_ss (As := [.int x0, .int l_wo]) (rest := []) ⟨hx, hb, hml, hown, hts⟩ (w_X12_has l D cI cS x0 l_wo) hKK (hP.sub (ws' := []) [] rfl) (va_cwS 2 hts gX12_pointRead_X12_has rfl rfl rfl (by decide +kernel) ⟨Nat.le_of_ble_eq_true rfl, Nat.le_of_ble_eq_true rfl⟩) rfl hl.1 rfl (Nat.le_of_ble_eq_true rfl) dX12_pointRead_24 ⟨Nat.le_of_ble_eq_true rfl, Nat.le_of_ble_eq_true rfl⟩ (fun r23638 hr23638 => ?_)
      refine lv_if_eq (tgt := 32) hx hb dX12_pointRead_27 (by decide) (fun c23639 => ?_) (fun c23639 => ?_)
      · have g23640 : Rg 0 0 r23638 := wk_eql hr23638.1 (by decide : Rg 0 0 (0 : Int32)) c23639 (by decide)
        refine lv_aload_n hx hb dX12_pointRead_32 rfl (lv_at hl 0 rfl) ?_
        refine va_get (D := D) (ci := 12) (v := .int l_wo) (C := RX12) (T := TX12) (N := 24) hx hb hts hin12 hown hK hP 0 rfl rfl 14 (by decide) (hts (.fieldLink RX12 178 "MissedPointsModel" "worth" "I") (by decide +kernel)) (fun _ h9 => h9) rfl dX12_pointRead_33 ?_
        refine lv_istore_n (lv' := [(2, .int l_wo), (0, .ref (b 0)), (1, .int x0)]) hx hb dX12_pointRead_36 rfl hl (by decide) rfl (fun ls hl => ?_)
        refine lv_aload_n hx hb dX12_pointRead_37 rfl (lv_at hl 1 rfl) ?_
        refine wk_qv (S := Int32 × Int32 × Int32 × SU) (fun q => wM cI b (mkM l_m l_z l_tp l_hs q.1 q.2.1 q.2.2.1 l_so l_sz l_kp) q.2.2.2) (l_to, l_tk, l_wo, v) (As := []) (rest := []) ⟨hx, hb, hml, hown, hts⟩ (w_X12_goesOn l D cI cS _ b l_m l_z l_tp l_hs l_to l_tk l_wo l_so l_sz l_kp v (show TyL (mkM l_m l_z l_tp l_hs l_to l_tk l_wo l_so l_sz l_kp) from ⟨p_m, p_tp, p_so, p_sz, p_kp, p_to⟩) hV (by have y90 : l_tk.toInt = (1 : Int32).toInt := congrArg Int32.toInt c23630; have y91 : ¬ r23632.toInt = (0 : Int32).toInt := fun z => c23633 (Int32.toInt_inj.mp z); have y92 : r23638.toInt = (0 : Int32).toInt := congrArg Int32.toInt c23639; have y93 : Rg 1 1 l_tk := g23631; have y94 : Rg 0 11 l_wo := g23636; have y95 : Rg 1 1 r23632 := g23637; have y96 : Rg 0 0 r23638 := g23640; have y97 : Rg 0 11 l_wo := g23636; have y98 : Rg 0 12 l_m := p_m; have y99 : Rg 0 120 l_tp := p_tp; have y910 : Rg 0 120 l_to := p_to; have y911 : Rg 1 1 l_tk := g23631; have y912 : Rg 0 11 l_wo := g23636; have y9c13 : (0 : Int32).toInt = 0 := (by decide); have y9c14 : (1 : Int32).toInt = 1 := (by decide); omega)) hKK hP hD hS hA 0 (ci := 12) rfl rfl (cwV 0 hts gX12_pointRead_X12_goesOn rfl rfl rfl (by decide +kernel) ⟨Nat.le_of_ble_eq_true rfl, Nat.le_of_ble_eq_true rfl⟩) rfl hl.1 rfl (Nat.le_of_ble_eq_true rfl) dX12_pointRead_38 ⟨Nat.le_of_ble_eq_true rfl, Nat.le_of_ble_eq_true rfl⟩ (fun q9 H locs hr23641 hP hD hS => ?_)
        obtain ⟨r23642, r23643, r23644, v⟩ := q9
        have hr23641 : TyV v ∧ Rg 0 120 r23642 ∧ (l_to.toInt ≤ r23642.toInt ∧ r23642.toInt ≤ l_tp.toInt ∧ (¬ r23643.toInt = 0 → l_to.toInt < r23642.toInt)) := hr23641
        have hV := hr23641.1
        have hP : va_P D cls (wM cI b (mkM l_m l_z l_tp l_hs r23642 r23643 r23644 l_so l_sz l_kp) v) H := hP
        have hD : va_D A (wM cI b (mkM l_m l_z l_tp l_hs r23642 r23643 r23644 l_so l_sz l_kp) v) := hD
        have kr23641_0 := hr23641.2.2
        refine lv_iload_n hx hb dX12_pointRead_41 rfl (lv_at hl 0 rfl) ?_
        subst hAe
        exact W.iret (v := l_wo) hx hb hr (fun t ht hW => ⟨⟨_, (r23642, r23643, r23644, v), rfl, ⟨hV, (show Rg (-1) 11 l_wo from rg_w g23636 (by decide) (by decide)), hr23641.2.1, (show l_to.toInt ≤ r23642.toInt ∧ r23642.toInt ≤ l_tp.toInt ∧ (¬ l_wo.toInt = -1 → l_tk.toInt = 1 ∧ (¬ r23643.toInt = 0 → l_to.toInt < r23642.toInt)) ∧ (l_wo.toInt = -1 → r23642.toInt = l_to.toInt ∧ r23643.toInt = l_tk.toInt) from by have y90 : l_tk.toInt = (1 : Int32).toInt := congrArg Int32.toInt c23630; have y91 : ¬ r23632.toInt = (0 : Int32).toInt := fun z => c23633 (Int32.toInt_inj.mp z); have y92 : r23638.toInt = (0 : Int32).toInt := congrArg Int32.toInt c23639; have y93 : Rg 1 1 l_tk := g23631; have y94 : Rg 0 11 l_wo := g23636; have y95 : Rg 1 1 r23632 := g23637; have y96 : Rg 0 0 r23638 := g23640; have y97 : Rg 0 11 l_wo := g23636; have y98 : Rg 0 11 l_wo := g23636; have y99 : Rg 0 12 l_m := p_m; have y910 : Rg 0 120 l_tp := p_tp; have y911 : Rg 0 120 r23642 := hr23641.2.1; have y912 : Rg 0 11 l_wo := g23636; have y9c13 : (0 : Int32).toInt = 0 := (by decide); have y9c14 : (1 : Int32).toInt = 1 := (by decide); omega)⟩, by rw [ht]; exact hP, hD⟩, hS.F ht⟩) hS.2.2 dX12_pointRead_42
      · have g23645 : Rg 1 1 r23638 := rg_ne_lo (k := 0) hr23638.1 (by decide) c23639 (by decide)
        refine lv_iconst (v := (-1)) hx hb dX12_pointRead_30 (by decide) ?_
        subst hAe
        exact W.iret (v := (-1)) hx hb hr (fun t ht hW => ⟨⟨_, (l_to, l_tk, l_wo, v), rfl, ⟨hV, (by decide : Rg (-1) 11 ((-1) : Int32)), p_to, (show l_to.toInt ≤ l_to.toInt ∧ l_to.toInt ≤ l_tp.toInt ∧ (¬ ((-1) : Int32).toInt = -1 → l_tk.toInt = 1 ∧ (¬ l_tk.toInt = 0 → l_to.toInt < l_to.toInt)) ∧ (((-1) : Int32).toInt = -1 → l_to.toInt = l_to.toInt ∧ l_tk.toInt = l_tk.toInt) from by have y90 : l_tk.toInt = (1 : Int32).toInt := congrArg Int32.toInt c23630; have y91 : ¬ r23632.toInt = (0 : Int32).toInt := fun z => c23633 (Int32.toInt_inj.mp z); have y92 : ¬ r23638.toInt = (0 : Int32).toInt := fun z => c23639 (Int32.toInt_inj.mp z); have y93 : Rg 1 1 l_tk := g23631; have y94 : Rg 0 11 l_wo := g23636; have y95 : Rg 1 1 r23632 := g23637; have y96 : Rg 1 1 r23638 := g23645; have y97 : Rg 0 12 l_m := p_m; have y98 : Rg 0 120 l_tp := p_tp; have y99 : Rg 0 120 l_to := p_to; have y910 : Rg 1 1 l_tk := g23631; have y911 : Rg 0 11 l_wo := g23636; have y9c12 : ((-1) : Int32).toInt = -1 := (by decide); have y9c13 : (0 : Int32).toInt = 0 := (by decide); have y9c14 : (1 : Int32).toInt = 1 := (by decide); omega)⟩, by rw [ht]; exact hP, hD⟩, hS.F ht⟩) hS.2.2 dX12_pointRead_31
set_option maxRecDepth 20000 in
theorem ggX12_rowRead_X12_goesOn : GoodIn wsX12_rowRead wsX12_goesOn := goodIn_r _ [22, 23, 24, 7, 25, 1, 26, 27, 28, 29, 5, 30, 13, 14, 15, 41, 42, 43, 44, 45, 46, 47, 48, 49, 50, 51, 52, 53, 54, 55, 56, 57, 58, 59, 60, 61, 62, 63, 64] rfl (by decide +kernel)
set_option maxRecDepth 20000 in
theorem gX12_rowRead_X12_goesOn : GoodIn wsX12_rowRead (wsV RX12 187 RX12 yX12_goesOn wsX12_goesOn) := goodIn_app (goodIn_of _ (by decide +kernel)) ggX12_rowRead_X12_goesOn
set_option maxRecDepth 20000 in
theorem ggX12_rowRead_X12_joins : GoodIn wsX12_rowRead wsX12_joins := goodIn_r _ [34, 35, 36, 16, 17, 5, 18, 37, 38, 39, 40, 41, 42, 43, 44, 45, 46, 47, 48, 49, 50, 51, 52, 53, 54, 55, 56, 57, 58, 59, 60, 61, 62, 63, 64] rfl (by decide +kernel)
set_option maxRecDepth 20000 in
theorem gX12_rowRead_X12_joins : GoodIn wsX12_rowRead (wsV RX12 193 RX12 yX12_joins wsX12_joins) := goodIn_app (goodIn_of _ (by decide +kernel)) ggX12_rowRead_X12_joins
theorem dX12_rowRead_13 : decode cX12_rowRead 13 = .ok (.aload_n 0, 1) := by decide +kernel
theorem dX12_rowRead_14 : decode cX12_rowRead 14 = .ok (.getfield 181, 3) := by decide +kernel
theorem dX12_rowRead_17 : decode cX12_rowRead 17 = .ok (.bipush 45, 2) := by decide +kernel
theorem dX12_rowRead_19 : decode cX12_rowRead 19 = .ok (.if_icmp .ne 33, 3) := by decide +kernel
theorem dX12_rowRead_22 : decode cX12_rowRead 22 = .ok (.aload_n 0, 1) := by decide +kernel
theorem dX12_rowRead_23 : decode cX12_rowRead 23 = .ok (.invokevirtual 187, 3) := by decide +kernel
theorem dX12_rowRead_26 : decode cX12_rowRead 26 = .ok (.aload_n 0, 1) := by decide +kernel
theorem dX12_rowRead_27 : decode cX12_rowRead 27 = .ok (.iconst 1, 1) := by decide +kernel
theorem dX12_rowRead_28 : decode cX12_rowRead 28 = .ok (.iload_n 1, 1) := by decide +kernel
theorem dX12_rowRead_29 : decode cX12_rowRead 29 = .ok (.ishl, 1) := by decide +kernel
theorem dX12_rowRead_30 : decode cX12_rowRead 30 = .ok (.invokevirtual 190, 3) := by decide +kernel
theorem dX12_rowRead_33 : decode cX12_rowRead 33 = .ok (.istore_n 2, 1) := by decide +kernel
theorem dX12_rowRead_34 : decode cX12_rowRead 34 = .ok (.iload_n 2, 1) := by decide +kernel
theorem dX12_rowRead_35 : decode cX12_rowRead 35 = .ok (.iconst (-1), 1) := by decide +kernel
theorem dX12_rowRead_36 : decode cX12_rowRead 36 = .ok (.if_icmp .ne 5, 3) := by decide +kernel
theorem dX12_rowRead_39 : decode cX12_rowRead 39 = .ok (.iconst 0, 1) := by decide +kernel
theorem dX12_rowRead_40 : decode cX12_rowRead 40 = .ok (.ireturn, 1) := by decide +kernel
theorem dX12_rowRead_41 : decode cX12_rowRead 41 = .ok (.aload_n 0, 1) := by decide +kernel
theorem dX12_rowRead_42 : decode cX12_rowRead 42 = .ok (.iload_n 1, 1) := by decide +kernel
theorem dX12_rowRead_43 : decode cX12_rowRead 43 = .ok (.iload_n 2, 1) := by decide +kernel
theorem dX12_rowRead_44 : decode cX12_rowRead 44 = .ok (.invokevirtual 193, 3) := by decide +kernel
theorem dX12_rowRead_47 : decode cX12_rowRead 47 = .ok (.iload_n 2, 1) := by decide +kernel
theorem dX12_rowRead_48 : decode cX12_rowRead 48 = .ok (.istore_n 1, 1) := by decide +kernel
theorem dX12_rowRead_49 : decode cX12_rowRead 49 = .ok (.goto (-36), 3) := by decide +kernel
theorem dX12_rowRead_52 : decode cX12_rowRead 52 = .ok (.iconst 1, 1) := by decide +kernel
theorem dX12_rowRead_53 : decode cX12_rowRead 53 = .ok (.ireturn, 1) := by decide +kernel
set_option maxHeartbeats 4000000 in
set_option maxRecDepth 100000 in
theorem w_X12_rowRead (l : Launch) (D : va_G) (cI cS : ClassId) (sz : Nat) (b : Nat → Nat) (l_m l_z l_tp l_hs l_to l_tk l_wo : Int32) (l_so l_sz l_kp : Nat → Int32) (v0 : SU) (hL : TyL (mkM l_m l_z l_tp l_hs l_to l_tk l_wo l_so l_sz l_kp)) (hV : TyV v0) (hto : l_to.toInt ≤ l_tp.toInt) : Met l yX12_rowRead wsX12_rowRead ({ frames := 4, cells := 0, slots := 0, locals := 160 }) (PQ D cI cS (wM cI b (mkM l_m l_z l_tp l_hs l_to l_tk l_wo l_so l_sz l_kp) v0) sz [.ref (b 0)]) (QF (S := Int32 × Int32 × Int32 × SU) D (wM cI b (mkM l_m l_z l_tp l_hs l_to l_tk l_wo l_so l_sz l_kp) v0) (fun q => wM cI b (mkM l_m l_z l_tp l_hs q.1 q.2.1 q.2.2.1 l_so l_sz l_kp) q.2.2.2) sz (fun r q => TyV q.2.2.2 ∧ Rg 0 1 r ∧ Rg 0 120 q.1 ∧ (l_to.toInt ≤ q.1.toInt ∧ q.1.toInt ≤ l_tp.toInt ∧ (¬ q.2.1.toInt = 0 → l_to.toInt < q.1.toInt ∨ ¬ l_tk.toInt = 0)))) 0 0 (va_A (wM cI b (mkM l_m l_z l_tp l_hs l_to l_tk l_wo l_so l_sz l_kp) v0) sz) := by
  refine Met.ofW (cc := cX12_rowRead) (maxL := 3) (ret := (some .boolean)) (by decide) rfl ?_
  intro p e s m args below meth c s₁ B hml hv
  obtain ⟨rfl, hsz, hP, hKK, hD0⟩ := hv
  have hx := B.exec
  have hb := B.bytes
  have hr := B.returns
  have hts := atoms_spec (ws := wsX12_rowRead) B.pre
  have hown : s.vm.findClass RX12 = some m.cls := findClass_of_methodNamed B.named
  have hlocks := B.notSynchronized
  have hK := hKK.1
  have hin12 : ∀ w ∈ wsX120, w ∈ wsX12_rowRead := by decide +kernel
  subst hsz
  have hD := hD0.self (sz := s.heap.size)
  obtain ⟨A, hAe⟩ : ∃ A, A = va_A (wM cI b (mkM l_m l_z l_tp l_hs l_to l_tk l_wo l_so l_sz l_kp) v0) s.heap.size := ⟨_, rfl⟩
  rw [← hAe] at hD
  have hA : ∀ q : Nat, s.heap.size ≤ q → A q := fun q h => by rw [hAe]; exact Or.inr h
  have hS : va_S A s.heap s.heap [] := va_S.rf
  have hl := lv_entry ([.ref (b 0)]) (n := 3) (Nat.le_of_ble_eq_true rfl)
  rw [lg_entry_eq]
  generalize (lg_sl ([.ref (b 0)]) ++ List.replicate (3 - (lg_sl ([.ref (b 0)])).length) Slot.unset).toArray = ls at hl ⊢
  have hl : lv_has ls 3 [(0, .ref (b 0))] := hl
  obtain ⟨v, hv9⟩ : ∃ v : SU, v = v0 := ⟨_, rfl⟩
  rw [← hv9] at hP hD hV
  have p_m : Rg 0 12 l_m := hL.1
  have p_tp : Rg 0 120 l_tp := hL.2.1
  have p_so : Ar (-1) 1 l_so := hL.2.2.1
  have p_sz : Ar 0 40 l_sz := hL.2.2.2.1
  have p_kp : Kp l_kp := hL.2.2.2.2.1
  have p_to : Rg 0 120 l_to := hL.2.2.2.2.2
  have lp13 : ∀ (n13 : Nat) (y13_l1 : Int32) (y13_kto : Int32) (y13_ktk : Int32) (y13_kwo : Int32) (v : SU) (H : Heap) (locs : List Loc) (ls : Array Slot), Rg 0 11 y13_l1 → Rg 0 120 y13_kto → (l_to.toInt ≤ y13_kto.toInt ∧ y13_kto.toInt ≤ l_tp.toInt ∧ (¬ y13_ktk.toInt = 0 → l_to.toInt < y13_kto.toInt ∨ ¬ l_tk.toInt = 0)) → TyV v → va_P D cls (wM cI b (mkM l_m l_z l_tp l_hs y13_kto y13_ktk y13_kwo l_so l_sz l_kp) v) H → va_D A (wM cI b (mkM l_m l_z l_tp l_hs y13_kto y13_ktk y13_kwo l_so l_sz l_kp) v) → va_S A s.heap H locs → lv_has ls 3 [(0, .ref (b 0)), (1, .int y13_l1)] → l_tp.toInt - y13_kto.toInt < (n13 : Int) → W p l e (headSpec wsX12_rowRead ({ frames := 4, cells := 0, slots := 0, locals := 160 })).room s m ([.ref (b 0)]).toArray below meth c H locs 0 0 (MQ below (QF (S := Int32 × Int32 × Int32 × SU) D (wM cI b (mkM l_m l_z l_tp l_hs l_to l_tk l_wo l_so l_sz l_kp) v0) (fun q => wM cI b (mkM l_m l_z l_tp l_hs q.1 q.2.1 q.2.2.1 l_so l_sz l_kp) q.2.2.2) s.heap.size (fun r q => TyV q.2.2.2 ∧ Rg 0 1 r ∧ Rg 0 120 q.1 ∧ (l_to.toInt ≤ q.1.toInt ∧ q.1.toInt ≤ l_tp.toInt ∧ (¬ q.2.1.toInt = 0 → l_to.toInt < q.1.toInt ∨ ¬ l_tk.toInt = 0)))) ([.ref (b 0)]).toArray s 0 0 (va_A (wM cI b (mkM l_m l_z l_tp l_hs l_to l_tk l_wo l_so l_sz l_kp) v0) s.heap.size)) (F0 m 13 ls []) := by
    intro n13
    induction n13 with
    | zero =>
      intro y13_l1 y13_kto y13_ktk y13_kwo v H locs ls g13_l1 g13_kto x13_0 hV hP hD hS hl hm13
      exact False.elim (by have z8 := hm13; have z7 := x13_0; omega)
    | succ n13 ih13 =>
      intro y13_l1 y13_kto y13_ktk y13_kwo v H locs ls g13_l1 g13_kto x13_0 hV hP hD hS hl hm13
      refine lv_aload_n hx hb dX12_rowRead_13 rfl (lv_at hl 0 rfl) ?_
      refine va_get (D := D) (ci := 12) (v := .int y13_ktk) (C := RX12) (T := TX12) (N := 24) hx hb hts hin12 hown hK hP 0 rfl rfl 13 (by decide) (hts (.fieldLink RX12 181 "MissedPointsModel" "token" "I") (by decide +kernel)) (fun _ h9 => h9) rfl dX12_rowRead_14 ?_
      refine lv_bipush (v := 45) hx hb dX12_rowRead_17 (by decide) ?_
      refine lv_icmp_ne (tgt := 52) hx hb dX12_rowRead_19 (by decide) (fun c23690 => ?_) (fun c23690 => ?_)
      · refine lv_iconst (v := 1) hx hb dX12_rowRead_52 (by decide) ?_
        subst hAe
        exact W.zret (v := 1) hx hb hr (by decide) (fun t ht hW => ⟨⟨_, (y13_kto, y13_ktk, y13_kwo, v), rfl, ⟨hV, (by decide : Rg 0 1 (1 : Int32)), g13_kto, (show l_to.toInt ≤ y13_kto.toInt ∧ y13_kto.toInt ≤ l_tp.toInt ∧ (¬ y13_ktk.toInt = 0 → l_to.toInt < y13_kto.toInt ∨ ¬ l_tk.toInt = 0) from by have y90 : ¬ y13_ktk.toInt = (45 : Int32).toInt := fun z => c23690 (Int32.toInt_inj.mp z); have y91 : Rg 0 11 y13_l1 := g13_l1; have y92 : Rg 0 12 l_m := p_m; have y93 : Rg 0 120 l_tp := p_tp; have y94 : Rg 0 120 y13_kto := g13_kto; have y9c5 : (0 : Int32).toInt = 0 := (by decide); have y9c6 : (1 : Int32).toInt = 1 := (by decide); have y9c7 : (45 : Int32).toInt = 45 := (by decide); omega)⟩, by rw [ht]; exact hP, hD⟩, hS.F ht⟩) hS.2.2 dX12_rowRead_53
      · have g23691 : Rg 45 45 y13_ktk := wk_eql (rg_any y13_ktk) (by decide : Rg 45 45 (45 : Int32)) c23690 (by decide)
        refine lv_aload_n hx hb dX12_rowRead_22 rfl (lv_at hl 0 rfl) ?_
        refine wk_qv (S := Int32 × Int32 × Int32 × SU) (fun q => wM cI b (mkM l_m l_z l_tp l_hs q.1 q.2.1 q.2.2.1 l_so l_sz l_kp) q.2.2.2) (y13_kto, y13_ktk, y13_kwo, v) (As := []) (rest := []) ⟨hx, hb, hml, hown, hts⟩ (w_X12_goesOn l D cI cS _ b l_m l_z l_tp l_hs y13_kto y13_ktk y13_kwo l_so l_sz l_kp v (show TyL (mkM l_m l_z l_tp l_hs y13_kto y13_ktk y13_kwo l_so l_sz l_kp) from ⟨p_m, p_tp, p_so, p_sz, p_kp, g13_kto⟩) hV (by have y90 : y13_ktk.toInt = (45 : Int32).toInt := congrArg Int32.toInt c23690; have y91 : Rg 45 45 y13_ktk := g23691; have y92 : Rg 0 11 y13_l1 := g13_l1; have y93 : Rg 0 12 l_m := p_m; have y94 : Rg 0 120 l_tp := p_tp; have y95 : Rg 0 120 y13_kto := g13_kto; have y96 : Rg 45 45 y13_ktk := g23691; have y9c7 : (0 : Int32).toInt = 0 := (by decide); have y9c8 : (1 : Int32).toInt = 1 := (by decide); have y9c9 : (45 : Int32).toInt = 45 := (by decide); omega)) hKK hP hD hS hA 0 (ci := 12) rfl rfl (cwV 0 hts gX12_rowRead_X12_goesOn rfl rfl rfl (by decide +kernel) ⟨Nat.le_of_ble_eq_true rfl, Nat.le_of_ble_eq_true rfl⟩) rfl hl.1 rfl (Nat.le_of_ble_eq_true rfl) dX12_rowRead_23 ⟨Nat.le_of_ble_eq_true rfl, Nat.le_of_ble_eq_true rfl⟩ (fun q9 H locs hr23692 hP hD hS => ?_)
        obtain ⟨r23693, r23694, r23695, v⟩ := q9
        have hr23692 : TyV v ∧ Rg 0 120 r23693 ∧ (y13_kto.toInt ≤ r23693.toInt ∧ r23693.toInt ≤ l_tp.toInt ∧ (¬ r23694.toInt = 0 → y13_kto.toInt < r23693.toInt)) := hr23692
        have hV := hr23692.1
        have hP : va_P D cls (wM cI b (mkM l_m l_z l_tp l_hs r23693 r23694 r23695 l_so l_sz l_kp) v) H := hP
        have hD : va_D A (wM cI b (mkM l_m l_z l_tp l_hs r23693 r23694 r23695 l_so l_sz l_kp) v) := hD
        have kr23692_0 := hr23692.2.2
        refine lv_aload_n hx hb dX12_rowRead_26 rfl (lv_at hl 0 rfl) ?_
        refine lv_iconst (v := 1) hx hb dX12_rowRead_27 (by decide) ?_
        refine lv_iload_n hx hb dX12_rowRead_28 rfl (lv_at hl 1 rfl) ?_
        refine wk_ishl1 (f := 2048) hx hb dX12_rowRead_29 g13_l1 (by decide) (fun r23696 hr23696 qr23696 => ?_)
        refine wk_qi (S := Int32 × Int32 × Int32 × SU) (fun q => wM cI b (mkM l_m l_z l_tp l_hs q.1 q.2.1 q.2.2.1 l_so l_sz l_kp) q.2.2.2) (r23693, r23694, r23695, v) (As := [.int r23696]) (rest := []) ⟨hx, hb, hml, hown, hts⟩ (w_X12_pointRead l D cI cS _ b l_m l_z l_tp l_hs r23693 r23694 r23695 l_so l_sz l_kp v (show TyL (mkM l_m l_z l_tp l_hs r23693 r23694 r23695 l_so l_sz l_kp) from ⟨p_m, p_tp, p_so, p_sz, p_kp, hr23692.2.1⟩) hV r23696 (by have y90 : y13_ktk.toInt = (45 : Int32).toInt := congrArg Int32.toInt c23690; have y91 : Rg 45 45 y13_ktk := g23691; have y92 : Rg 0 11 y13_l1 := g13_l1; have y93 : Rg 1 2048 r23696 := hr23696; have y94 : Rg 0 12 l_m := p_m; have y95 : Rg 0 120 l_tp := p_tp; have y96 : Rg 0 120 r23693 := hr23692.2.1; have y9c7 : (0 : Int32).toInt = 0 := (by decide); have y9c8 : (1 : Int32).toInt = 1 := (by decide); have y9c9 : (45 : Int32).toInt = 45 := (by decide); omega)) hKK hP hD hS hA 0 (ci := 12) rfl rfl (cwV 1 hts gX12_rowRead_X12_pointRead rfl rfl rfl (by decide +kernel) ⟨Nat.le_of_ble_eq_true rfl, Nat.le_of_ble_eq_true rfl⟩) rfl hl.1 rfl (Nat.le_of_ble_eq_true rfl) dX12_rowRead_30 ⟨Nat.le_of_ble_eq_true rfl, Nat.le_of_ble_eq_true rfl⟩ (fun r23697 q9 H locs hr23697 hP hD hS => ?_)
        obtain ⟨r23698, r23699, r23700, v⟩ := q9
        have hr23697 : TyV v ∧ Rg (-1) 11 r23697 ∧ Rg 0 120 r23698 ∧ (r23693.toInt ≤ r23698.toInt ∧ r23698.toInt ≤ l_tp.toInt ∧ (¬ r23697.toInt = -1 → r23694.toInt = 1 ∧ (¬ r23699.toInt = 0 → r23693.toInt < r23698.toInt)) ∧ (r23697.toInt = -1 → r23698.toInt = r23693.toInt ∧ r23699.toInt = r23694.toInt)) := hr23697
        have hV := hr23697.1
        have hP : va_P D cls (wM cI b (mkM l_m l_z l_tp l_hs r23698 r23699 r23700 l_so l_sz l_kp) v) H := hP
        have hD : va_D A (wM cI b (mkM l_m l_z l_tp l_hs r23698 r23699 r23700 l_so l_sz l_kp) v) := hD
        have kr23697_0 := hr23697.2.2.2
        refine lv_istore_n (lv' := [(2, .int r23697), (0, .ref (b 0)), (1, .int y13_l1)]) hx hb dX12_rowRead_33 rfl hl (by decide) rfl (fun ls hl => ?_)
        refine lv_iload_n hx hb dX12_rowRead_34 rfl (lv_at hl 0 rfl) ?_
        refine lv_iconst (v := (-1)) hx hb dX12_rowRead_35 (by decide) ?_
        refine lv_icmp_ne (tgt := 41) hx hb dX12_rowRead_36 (by decide) (fun c23701 => ?_) (fun c23701 => ?_)
        · have g23702 : Rg 0 11 r23697 := rg_ne_lo (k := (-1)) hr23697.2.1 (by decide) c23701 (by decide)
          refine lv_aload_n hx hb dX12_rowRead_41 rfl (lv_at hl 1 rfl) ?_
          refine lv_iload_n hx hb dX12_rowRead_42 rfl (lv_at hl 2 rfl) ?_
          refine lv_iload_n hx hb dX12_rowRead_43 rfl (lv_at hl 0 rfl) ?_
          refine wk_qv (wM cI b (mkM l_m l_z l_tp l_hs r23698 r23699 r23700 l_so l_sz l_kp)) v (As := [.int y13_l1, .int r23697]) (rest := []) ⟨hx, hb, hml, hown, hts⟩ (w_X12_joins l D cI cS _ b (mkM l_m l_z l_tp l_hs r23698 r23699 r23700 l_so l_sz l_kp) v (show TyL (mkM l_m l_z l_tp l_hs r23698 r23699 r23700 l_so l_sz l_kp) from ⟨p_m, p_tp, p_so, p_sz, p_kp, hr23697.2.2.1⟩) hV y13_l1 r23697 g13_l1 g23702) hKK hP hD hS hA 0 (ci := 12) rfl rfl (cwV 2 hts gX12_rowRead_X12_joins rfl rfl rfl (by decide +kernel) ⟨Nat.le_of_ble_eq_true rfl, Nat.le_of_ble_eq_true rfl⟩) rfl hl.1 rfl (Nat.le_of_ble_eq_true rfl) dX12_rowRead_44 ⟨Nat.le_of_ble_eq_true rfl, Nat.le_of_ble_eq_true rfl⟩ (fun v H locs hr23703 hP hD hS => ?_)
          have hV := hr23703.1
          refine lv_iload_n hx hb dX12_rowRead_47 rfl (lv_at hl 0 rfl) ?_
          refine lv_istore_n (lv' := [(1, .int r23697), (2, .int r23697), (0, .ref (b 0))]) hx hb dX12_rowRead_48 rfl hl (by decide) rfl (fun ls hl => ?_)
          refine lv_goto (tgt := 13) hx hb dX12_rowRead_49 (by decide) ?_
          exact ih13 r23697 r23698 r23699 r23700 v _ _ ls g23702 hr23697.2.2.1 (show (l_to.toInt ≤ r23698.toInt ∧ r23698.toInt ≤ l_tp.toInt ∧ (¬ r23699.toInt = 0 → l_to.toInt < r23698.toInt ∨ ¬ l_tk.toInt = 0)) from by have y90 : y13_ktk.toInt = (45 : Int32).toInt := congrArg Int32.toInt c23690; have y91 : ¬ r23697.toInt = ((-1) : Int32).toInt := fun z => c23701 (Int32.toInt_inj.mp z); have y92 : Rg 45 45 y13_ktk := g23691; have y93 : Rg 0 11 r23697 := g23702; have y94 : Rg 0 11 r23697 := g23702; have y95 : Rg 0 11 r23697 := g23702; have y96 : Rg 0 12 l_m := p_m; have y97 : Rg 0 120 l_tp := p_tp; have y98 : Rg 0 120 r23698 := hr23697.2.2.1; have y9c9 : ((-1) : Int32).toInt = -1 := (by decide); have y9c10 : (0 : Int32).toInt = 0 := (by decide); have y9c11 : (1 : Int32).toInt = 1 := (by decide); have y9c12 : (45 : Int32).toInt = 45 := (by decide); omega) hV hP hD hS (lv_sub (l' := [(0, .ref (b 0)), (1, .int r23697)]) hl [2, 0] rfl) (show l_tp.toInt - r23698.toInt < _ from by have z8 := hm13; have y90 : y13_ktk.toInt = (45 : Int32).toInt := congrArg Int32.toInt c23690; have y91 : ¬ r23697.toInt = ((-1) : Int32).toInt := fun z => c23701 (Int32.toInt_inj.mp z); have y92 : Rg 45 45 y13_ktk := g23691; have y93 : Rg 0 11 r23697 := g23702; have y94 : Rg 0 11 r23697 := g23702; have y95 : Rg 0 11 r23697 := g23702; have y96 : Rg 0 12 l_m := p_m; have y97 : Rg 0 120 l_tp := p_tp; have y98 : Rg 0 120 r23698 := hr23697.2.2.1; have y9c9 : ((-1) : Int32).toInt = -1 := (by decide); have y9c10 : (0 : Int32).toInt = 0 := (by decide); have y9c11 : (1 : Int32).toInt = 1 := (by decide); have y9c12 : (45 : Int32).toInt = 45 := (by decide); omega)
        · have g23704 : Rg (-1) (-1) r23697 := wk_eql hr23697.2.1 (by decide : Rg (-1) (-1) ((-1) : Int32)) c23701 (by decide)
          refine lv_iconst (v := 0) hx hb dX12_rowRead_39 (by decide) ?_
          subst hAe
          exact W.zret (v := 0) hx hb hr (by decide) (fun t ht hW => ⟨⟨_, (r23698, r23699, r23700, v), rfl, ⟨hV, (by decide : Rg 0 1 (0 : Int32)), hr23697.2.2.1, (show l_to.toInt ≤ r23698.toInt ∧ r23698.toInt ≤ l_tp.toInt ∧ (¬ r23699.toInt = 0 → l_to.toInt < r23698.toInt ∨ ¬ l_tk.toInt = 0) from by have y90 : y13_ktk.toInt = (45 : Int32).toInt := congrArg Int32.toInt c23690; have y91 : r23697.toInt = ((-1) : Int32).toInt := congrArg Int32.toInt c23701; have y92 : Rg 45 45 y13_ktk := g23691; have y93 : Rg (-1) (-1) r23697 := g23704; have y94 : Rg 0 11 y13_l1 := g13_l1; have y95 : Rg (-1) (-1) r23697 := g23704; have y96 : Rg 0 12 l_m := p_m; have y97 : Rg 0 120 l_tp := p_tp; have y98 : Rg 0 120 r23698 := hr23697.2.2.1; have y9c9 : ((-1) : Int32).toInt = -1 := (by decide); have y9c10 : (0 : Int32).toInt = 0 := (by decide); have y9c11 : (1 : Int32).toInt = 1 := (by decide); have y9c12 : (45 : Int32).toInt = 45 := (by decide); omega)⟩, by rw [ht]; exact hP, hD⟩, hS.F ht⟩) hS.2.2 dX12_rowRead_40
  refine lv_aload_n hx hb dX12_rowRead_0 rfl (lv_at hl 0 rfl) ?_
  refine lv_iconst (v := 0) hx hb dX12_rowRead_1 (by decide) ?_
  refine wk_qi (S := Int32 × Int32 × Int32 × SU) (fun q => wM cI b (mkM l_m l_z l_tp l_hs q.1 q.2.1 q.2.2.1 l_so l_sz l_kp) q.2.2.2) (l_to, l_tk, l_wo, v) (As := [.int 0]) (rest := []) ⟨hx, hb, hml, hown, hts⟩ (w_X12_pointRead l D cI cS _ b l_m l_z l_tp l_hs l_to l_tk l_wo l_so l_sz l_kp v (show TyL (mkM l_m l_z l_tp l_hs l_to l_tk l_wo l_so l_sz l_kp) from ⟨p_m, p_tp, p_so, p_sz, p_kp, p_to⟩) hV (0 : Int32) (by have y90 : Rg 0 12 l_m := p_m; have y91 : Rg 0 120 l_tp := p_tp; have y92 : Rg 0 120 l_to := p_to; have y9c3 : (0 : Int32).toInt = 0 := (by decide); have y9c4 : (1 : Int32).toInt = 1 := (by decide); omega)) hKK hP hD hS hA 0 (ci := 12) rfl rfl (cwV 1 hts gX12_rowRead_X12_pointRead rfl rfl rfl (by decide +kernel) ⟨Nat.le_of_ble_eq_true rfl, Nat.le_of_ble_eq_true rfl⟩) rfl hl.1 rfl (Nat.le_of_ble_eq_true rfl) dX12_rowRead_2 ⟨Nat.le_of_ble_eq_true rfl, Nat.le_of_ble_eq_true rfl⟩ (fun r23705 q9 H locs hr23705 hP hD hS => ?_)
  obtain ⟨r23706, r23707, r23708, v⟩ := q9
  have hr23705 : TyV v ∧ Rg (-1) 11 r23705 ∧ Rg 0 120 r23706 ∧ (l_to.toInt ≤ r23706.toInt ∧ r23706.toInt ≤ l_tp.toInt ∧ (¬ r23705.toInt = -1 → l_tk.toInt = 1 ∧ (¬ r23707.toInt = 0 → l_to.toInt < r23706.toInt)) ∧ (r23705.toInt = -1 → r23706.toInt = l_to.toInt ∧ r23707.toInt = l_tk.toInt)) := hr23705
  have hV := hr23705.1
  have hP : va_P D cls (wM cI b (mkM l_m l_z l_tp l_hs r23706 r23707 r23708 l_so l_sz l_kp) v) H := hP
  have hD : va_D A (wM cI b (mkM l_m l_z l_tp l_hs r23706 r23707 r23708 l_so l_sz l_kp) v) := hD
  have kr23705_0 := hr23705.2.2.2
  refine lv_istore_n (lv' := [(1, .int r23705), (0, .ref (b 0))]) hx hb dX12_rowRead_5 rfl hl (by decide) rfl (fun ls hl => ?_)
  refine lv_iload_n hx hb dX12_rowRead_6 rfl (lv_at hl 0 rfl) ?_
  refine lv_iconst (v := (-1)) hx hb dX12_rowRead_7 (by decide) ?_
  refine lv_icmp_ne (tgt := 13) hx hb dX12_rowRead_8 (by decide) (fun c23709 => ?_) (fun c23709 => ?_)
  · have g23710 : Rg 0 11 r23705 := rg_ne_lo (k := (-1)) hr23705.2.1 (by decide) c23709 (by decide)
    exact lp13 122 r23705 r23706 r23707 r23708 v _ _ ls g23710 hr23705.2.2.1 (show (l_to.toInt ≤ r23706.toInt ∧ r23706.toInt ≤ l_tp.toInt ∧ (¬ r23707.toInt = 0 → l_to.toInt < r23706.toInt ∨ ¬ l_tk.toInt = 0)) from by have y90 : ¬ r23705.toInt = ((-1) : Int32).toInt := fun z => c23709 (Int32.toInt_inj.mp z); have y91 : Rg 0 11 r23705 := g23710; have y92 : Rg 0 11 r23705 := g23710; have y93 : Rg 0 12 l_m := p_m; have y94 : Rg 0 120 l_tp := p_tp; have y95 : Rg 0 120 r23706 := hr23705.2.2.1; have y9c6 : ((-1) : Int32).toInt = -1 := (by decide); have y9c7 : (0 : Int32).toInt = 0 := (by decide); have y9c8 : (1 : Int32).toInt = 1 := (by decide); omega) hV hP hD hS (lv_sub (l' := [(0, .ref (b 0)), (1, .int r23705)]) hl [1, 0] rfl) (show l_tp.toInt - r23706.toInt < _ from by have y90 : ¬ r23705.toInt = ((-1) : Int32).toInt := fun z => c23709 (Int32.toInt_inj.mp z); have y91 : Rg 0 11 r23705 := g23710; have y92 : Rg 0 11 r23705 := g23710; have y93 : Rg 0 12 l_m := p_m; have y94 : Rg 0 120 l_tp := p_tp; have y95 : Rg 0 120 r23706 := hr23705.2.2.1; have y9c6 : ((-1) : Int32).toInt = -1 := (by decide); have y9c7 : (0 : Int32).toInt = 0 := (by decide); have y9c8 : (1 : Int32).toInt = 1 := (by decide); omega)
  · have g23711 : Rg (-1) (-1) r23705 := wk_eql hr23705.2.1 (by decide : Rg (-1) (-1) ((-1) : Int32)) c23709 (by decide)
    refine lv_iconst (v := 0) hx hb dX12_rowRead_11 (by decide) ?_
    subst hAe
    exact W.zret (v := 0) hx hb hr (by decide) (fun t ht hW => ⟨⟨_, (r23706, r23707, r23708, v), rfl, ⟨hV, (by decide : Rg 0 1 (0 : Int32)), hr23705.2.2.1, (show l_to.toInt ≤ r23706.toInt ∧ r23706.toInt ≤ l_tp.toInt ∧ (¬ r23707.toInt = 0 → l_to.toInt < r23706.toInt ∨ ¬ l_tk.toInt = 0) from by have y90 : r23705.toInt = ((-1) : Int32).toInt := congrArg Int32.toInt c23709; have y91 : Rg (-1) (-1) r23705 := g23711; have y92 : Rg (-1) (-1) r23705 := g23711; have y93 : Rg 0 12 l_m := p_m; have y94 : Rg 0 120 l_tp := p_tp; have y95 : Rg 0 120 r23706 := hr23705.2.2.1; have y9c6 : ((-1) : Int32).toInt = -1 := (by decide); have y9c7 : (0 : Int32).toInt = 0 := (by decide); have y9c8 : (1 : Int32).toInt = 1 := (by decide); omega)⟩, by rw [ht]; exact hP, hD⟩, hS.F ht⟩) hS.2.2 dX12_rowRead_12
