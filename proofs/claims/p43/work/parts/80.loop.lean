set_option maxHeartbeats 8000000 in
set_option maxRecDepth 100000 in
theorem law_loop {p : Program} {l : Launch} {e : Env} {s : State} {m : MethodId} {below : List Frame} {meth : Method} {c : Code} {b0 L0 : Nat} {xs : Nat → Int32} {D : va_G} {cI cS : ClassId} {A : Nat → Prop} {a b : Nat → Nat} (hx : p.tables.exec = Jvm.exec) (hb : c.code = cL_law) (hml : c.maxLocals = 4) (hown : s.vm.findClass RL = some m.cls) (hts : ∀ w ∈ wsL_law, w.before #[Value.ref b0] s = true) (hKK : KK D cI cS s) (hAB0 : AB s s.heap) (hA0 : ∀ q : Nat, q < s.heap.size → ¬ A q) (hX : va_X b0 L0 xs s s.heap) (hbl : b0 < s.heap.size) (hbA : ¬ A b0) (hA : ∀ q : Nat, s.heap.size ≤ q → A q) (hL0 : L0 ≤ 3072) (hr : meth.sig.returnType = ret) (hlocks : meth.locks = false) (hAe : A = fun q => s.heap.size ≤ q) : ∀ (n : Nat) (i : Int32) (na nc N : Nat) (cx my : Nat → Int32) (R u v : SU) (H : Heap) (locs : List Loc) (ls : Array Slot) (cells slots : Nat), 0 ≤ i.toInt → i.toInt ≤ (L0 : Int) → (L0 : Int) - i.toInt < (n : Int) → ST D cI cS A s a b b0 i na nc N cx my R u v H locs ls cells slots → W p l e room_1 s m #[Value.ref b0] below meth c H locs cells slots (lw_Z below #[Value.ref b0] s) (F0 m 18 ls []) := by
  intro n
  induction n with
  | zero =>
    intro i na nc N cx my R u v H locs ls cells slots h0 h1 h2
    exact False.elim (by omega)
  | succ n ih =>
    intro i na nc N cx my R u v H locs ls cells slots h0 h1 h2 hst
    obtain ⟨hcs, hI, hP, hD, hS, hl⟩ := id hst
    have hX0 := hX
    refine lv_iload_n hx hb dL_law_18 rfl (lv_at hl 0 rfl) ?_
    refine lv_aload_n hx hb dL_law_19 rfl (lv_at hl 3 rfl) ?_
    refine va_slen hx hb hX hbl hbA hS dL_law_20 ?_
    refine lz_top (y := nI L0) rfl ?_
    refine lv_bipush (v := 6) hx hb dL_law_21 (by decide) ?_
    refine lv_isub hx hb dL_law_23 ?_
    have eL : (nI L0).toInt = (L0 : Int) := nI_toInt (by omega)
    have e6 : (nI L0 - 6).toInt = (L0 : Int) - 6 := by
      have z := rg_subE (x := nI L0) (y := 6) (a := 0) (b := 3072) (c := 6) (d := 6) ⟨by omega, by omega⟩ (by decide) (by decide) (by decide)
      have z2 : (6 : Int32).toInt = 6 := by decide
      omega
    refine lv_icmp_gt (tgt := 1492) hx hb dL_law_24 (by decide) (fun c1 => ?_) (fun c1 => ?_)
    · refine lv_iconst (v := 1) hx hb dL_law_1492 (by decide) ?_
      refine va_forget (fun q hq => by have h9 := hS.2.2 q hq; rw [hAe] at h9; exact h9) ?_
      have hw : cells ≤ 600000 ∧ slots ≤ 7302250 := by
        rcases hcs with ⟨_, rfl, rfl⟩ | ⟨_, rfl, rfl⟩ <;> exact ⟨Nat.le_of_ble_eq_true rfl, Nat.le_of_ble_eq_true rfl⟩
      refine W.widen (k := 600000) (n := 7302250) hw.1 hw.2 ?_
      exact lw_ret hx hb hr hlocks dL_law_1493
    · have hi1 : i.toInt + 6 ≤ (L0 : Int) := by
        have z := mt (lz_lt _ _).mpr c1
        omega
      have tail : ∀ (na nc N : Nat) (cx my : Nat → Int32) (R u v : SU) (H : Heap) (locs : List Loc) (ls : Array Slot) (cells slots : Nat), ST D cI cS A s a b b0 i na nc N cx my R u v H locs ls cells slots → W p l e room_1 s m #[Value.ref b0] below meth c H locs cells slots (lw_Z below #[Value.ref b0] s) (F0 m 1486 ls []) := by
        intro na nc N cx my R u v H locs ls cells slots hst
        obtain ⟨hcs, hI, hP, hD, hS, hl⟩ := hst
        refine wk_iinc (lv' := fun r => [(3, .int r), (2, .ref (b 0)), (1, .ref (a 0)), (0, .ref b0)]) (e1 := 0) (f := 3100) hx hb dL_law_1486 hl (k := 0) rfl (by decide) (a := 0) (b := 3072) ⟨h0, by omega⟩ (by decide) (fun _ => rfl) (fun r ls hr1 er hl => ?_)
        refine lv_goto (tgt := 18) hx hb dL_law_1489 (by decide) ?_
        exact ih r na nc N cx my R u v H locs ls cells slots (by omega) (by omega) (by omega) ⟨hcs, hI, hP, hD, hS, hl⟩
      refine lv_aload_n hx hb dL_law_27 rfl (lv_at hl 3 rfl) ?_
      refine lv_iload_n hx hb dL_law_28 rfl (lv_at hl 0 rfl) ?_
      refine va_sld hx hb hX hbl hbA hS (vp_in_iff.mpr ⟨h0, by omega⟩) dL_law_29 ?_
      refine lv_bipush (v := 63) hx hb dL_law_30 (by decide) ?_
      refine lv_iand hx hb dL_law_32 ?_
      obtain ⟨j, hj, ej⟩ := pk_andE (xs i.toNatClampNeg) (m := 63) 6 (by decide)
      refine lz_top ej ?_
      by_cases h44 : 44 ≤ j
      · refine lv_tableOut (tgt := 1486) hx hb dL_law_33 (Or.inr (by rw [nI_toInt (by omega)]; omega)) (by decide) ?_
        exact tail na nc N cx my R u v H locs ls cells slots hst
      · have h9 : j = 0 ∨ j = 1 ∨ j = 2 ∨ j = 3 ∨ j = 4 ∨ j = 5 ∨ j = 6 ∨ j = 7 ∨ j = 8 ∨ j = 9 ∨ j = 10 ∨ j = 11 ∨ j = 12 ∨ j = 13 ∨ j = 14 ∨ j = 15 ∨ j = 16 ∨ j = 17 ∨ j = 18 ∨ j = 19 ∨ j = 20 ∨ j = 21 ∨ j = 22 ∨ j = 23 ∨ j = 24 ∨ j = 25 ∨ j = 26 ∨ j = 27 ∨ j = 28 ∨ j = 29 ∨ j = 30 ∨ j = 31 ∨ j = 32 ∨ j = 33 ∨ j = 34 ∨ j = 35 ∨ j = 36 ∨ j = 37 ∨ j = 38 ∨ j = 39 ∨ j = 40 ∨ j = 41 ∨ j = 42 ∨ j = 43 := by omega
        rcases h9 with rfl | rfl | rfl | rfl | rfl | rfl | rfl | rfl | rfl | rfl | rfl | rfl | rfl | rfl | rfl | rfl | rfl | rfl | rfl | rfl | rfl | rfl | rfl | rfl | rfl | rfl | rfl | rfl | rfl | rfl | rfl | rfl | rfl | rfl | rfl | rfl | rfl | rfl | rfl | rfl | rfl | rfl | rfl | rfl
        · refine lv_tableIn (tgt := 224) (off := 191) hx hb dL_law_33 (by decide) (by decide) rfl (by decide) ?_
          exact lc_0 hx hb hml hown hts hKK hAB0 hA0 hX hbl hbA hA hL0 h0 hi1 hst tail
        · refine lv_tableIn (tgt := 247) (off := 214) hx hb dL_law_33 (by decide) (by decide) rfl (by decide) ?_
          exact lc_1 hx hb hml hown hts hKK hAB0 hA0 hX hbl hbA hA hL0 h0 hi1 hst tail
        · refine lv_tableIn (tgt := 290) (off := 257) hx hb dL_law_33 (by decide) (by decide) rfl (by decide) ?_
          exact lc_2 hx hb hml hown hts hKK hAB0 hA0 hX hbl hbA hA hL0 h0 hi1 hst tail
        · refine lv_tableIn (tgt := 313) (off := 280) hx hb dL_law_33 (by decide) (by decide) rfl (by decide) ?_
          exact lc_3 hx hb hml hown hts hKK hAB0 hA0 hX hbl hbA hA hL0 h0 hi1 hst tail
        · refine lv_tableIn (tgt := 336) (off := 303) hx hb dL_law_33 (by decide) (by decide) rfl (by decide) ?_
          exact lc_4 hx hb hml hown hts hKK hAB0 hA0 hX hbl hbA hA hL0 h0 hi1 hst tail
        · refine lv_tableIn (tgt := 359) (off := 326) hx hb dL_law_33 (by decide) (by decide) rfl (by decide) ?_
          exact lc_5 hx hb hml hown hts hKK hAB0 hA0 hX hbl hbA hA hL0 h0 hi1 hst tail
        · refine lv_tableIn (tgt := 382) (off := 349) hx hb dL_law_33 (by decide) (by decide) rfl (by decide) ?_
          exact lc_6 hx hb hml hown hts hKK hAB0 hA0 hX hbl hbA hA hL0 h0 hi1 hst tail
        · refine lv_tableIn (tgt := 405) (off := 372) hx hb dL_law_33 (by decide) (by decide) rfl (by decide) ?_
          exact lc_7 hx hb hml hown hts hKK hAB0 hA0 hX hbl hbA hA hL0 h0 hi1 hst tail
        · refine lv_tableIn (tgt := 438) (off := 405) hx hb dL_law_33 (by decide) (by decide) rfl (by decide) ?_
          exact lc_8 hx hb hml hown hts hKK hAB0 hA0 hX hbl hbA hA hL0 h0 hi1 hst tail
        · refine lv_tableIn (tgt := 461) (off := 428) hx hb dL_law_33 (by decide) (by decide) rfl (by decide) ?_
          exact lc_9 hx hb hml hown hts hKK hAB0 hA0 hX hbl hbA hA hL0 h0 hi1 hst tail
        · refine lv_tableIn (tgt := 484) (off := 451) hx hb dL_law_33 (by decide) (by decide) rfl (by decide) ?_
          exact lc_10 hx hb hml hown hts hKK hAB0 hA0 hX hbl hbA hA hL0 h0 hi1 hst tail
        · refine lv_tableIn (tgt := 507) (off := 474) hx hb dL_law_33 (by decide) (by decide) rfl (by decide) ?_
          exact lc_11 hx hb hml hown hts hKK hAB0 hA0 hX hbl hbA hA hL0 h0 hi1 hst tail
        · refine lv_tableIn (tgt := 550) (off := 517) hx hb dL_law_33 (by decide) (by decide) rfl (by decide) ?_
          exact lc_12 hx hb hml hown hts hKK hAB0 hA0 hX hbl hbA hA hL0 h0 hi1 hst tail
        · refine lv_tableIn (tgt := 573) (off := 540) hx hb dL_law_33 (by decide) (by decide) rfl (by decide) ?_
          exact lc_13 hx hb hml hown hts hKK hAB0 hA0 hX hbl hbA hA hL0 h0 hi1 hst tail
        · refine lv_tableIn (tgt := 596) (off := 563) hx hb dL_law_33 (by decide) (by decide) rfl (by decide) ?_
          exact lc_14 hx hb hml hown hts hKK hAB0 hA0 hX hbl hbA hA hL0 h0 hi1 hst tail
        · refine lv_tableIn (tgt := 619) (off := 586) hx hb dL_law_33 (by decide) (by decide) rfl (by decide) ?_
          exact lc_15 hx hb hml hown hts hKK hAB0 hA0 hX hbl hbA hA hL0 h0 hi1 hst tail
        · refine lv_tableIn (tgt := 642) (off := 609) hx hb dL_law_33 (by decide) (by decide) rfl (by decide) ?_
          exact lc_16 hx hb hml hown hts hKK hAB0 hA0 hX hbl hbA hA hL0 h0 hi1 hst tail
        · refine lv_tableIn (tgt := 665) (off := 632) hx hb dL_law_33 (by decide) (by decide) rfl (by decide) ?_
          exact lc_17 hx hb hml hown hts hKK hAB0 hA0 hX hbl hbA hA hL0 h0 hi1 hst tail
        · refine lv_tableIn (tgt := 698) (off := 665) hx hb dL_law_33 (by decide) (by decide) rfl (by decide) ?_
          exact lc_18 hx hb hml hown hts hKK hAB0 hA0 hX hbl hbA hA hL0 h0 hi1 hst tail
        · refine lv_tableIn (tgt := 731) (off := 698) hx hb dL_law_33 (by decide) (by decide) rfl (by decide) ?_
          exact lc_19 hx hb hml hown hts hKK hAB0 hA0 hX hbl hbA hA hL0 h0 hi1 hst tail
        · refine lv_tableIn (tgt := 754) (off := 721) hx hb dL_law_33 (by decide) (by decide) rfl (by decide) ?_
          exact lc_20 hx hb hml hown hts hKK hAB0 hA0 hX hbl hbA hA hL0 h0 hi1 hst tail
        · refine lv_tableIn (tgt := 777) (off := 744) hx hb dL_law_33 (by decide) (by decide) rfl (by decide) ?_
          exact lc_21 hx hb hml hown hts hKK hAB0 hA0 hX hbl hbA hA hL0 h0 hi1 hst tail
        · refine lv_tableIn (tgt := 800) (off := 767) hx hb dL_law_33 (by decide) (by decide) rfl (by decide) ?_
          exact lc_22 hx hb hml hown hts hKK hAB0 hA0 hX hbl hbA hA hL0 h0 hi1 hst tail
        · refine lv_tableIn (tgt := 823) (off := 790) hx hb dL_law_33 (by decide) (by decide) rfl (by decide) ?_
          exact lc_23 hx hb hml hown hts hKK hAB0 hA0 hX hbl hbA hA hL0 h0 hi1 hst tail
        · refine lv_tableIn (tgt := 846) (off := 813) hx hb dL_law_33 (by decide) (by decide) rfl (by decide) ?_
          exact lc_24 hx hb hml hown hts hKK hAB0 hA0 hX hbl hbA hA hL0 h0 hi1 hst tail
        · refine lv_tableIn (tgt := 869) (off := 836) hx hb dL_law_33 (by decide) (by decide) rfl (by decide) ?_
          exact lc_25 hx hb hml hown hts hKK hAB0 hA0 hX hbl hbA hA hL0 h0 hi1 hst tail
        · refine lv_tableIn (tgt := 902) (off := 869) hx hb dL_law_33 (by decide) (by decide) rfl (by decide) ?_
          exact lc_26 hx hb hml hown hts hKK hAB0 hA0 hX hbl hbA hA hL0 h0 hi1 hst tail
        · refine lv_tableIn (tgt := 925) (off := 892) hx hb dL_law_33 (by decide) (by decide) rfl (by decide) ?_
          exact lc_27 hx hb hml hown hts hKK hAB0 hA0 hX hbl hbA hA hL0 h0 hi1 hst tail
        · refine lv_tableIn (tgt := 968) (off := 935) hx hb dL_law_33 (by decide) (by decide) rfl (by decide) ?_
          exact lc_28 hx hb hml hown hts hKK hAB0 hA0 hX hbl hbA hA hL0 h0 hi1 hst tail
        · refine lv_tableIn (tgt := 1001) (off := 968) hx hb dL_law_33 (by decide) (by decide) rfl (by decide) ?_
          exact lc_29 hx hb hml hown hts hKK hAB0 hA0 hX hbl hbA hA hL0 h0 hi1 hst tail
        · refine lv_tableIn (tgt := 1034) (off := 1001) hx hb dL_law_33 (by decide) (by decide) rfl (by decide) ?_
          exact lc_30 hx hb hml hown hts hKK hAB0 hA0 hX hbl hbA hA hL0 h0 hi1 hst tail
        · refine lv_tableIn (tgt := 1047) (off := 1014) hx hb dL_law_33 (by decide) (by decide) rfl (by decide) ?_
          exact lc_31 hx hb hml hown hts hKK hAB0 hA0 hX hbl hbA hA hL0 h0 hi1 hst tail
        · refine lv_tableIn (tgt := 1060) (off := 1027) hx hb dL_law_33 (by decide) (by decide) rfl (by decide) ?_
          exact lc_32 hx hb hml hown hts hKK hAB0 hA0 hX hbl hbA hA hL0 h0 hi1 hst tail
        · refine lv_tableIn (tgt := 1083) (off := 1050) hx hb dL_law_33 (by decide) (by decide) rfl (by decide) ?_
          exact lc_33 hx hb hml hown hts hKK hAB0 hA0 hX hbl hbA hA hL0 h0 hi1 hst tail
        · refine lv_tableIn (tgt := 1116) (off := 1083) hx hb dL_law_33 (by decide) (by decide) rfl (by decide) ?_
          exact lc_34 hx hb hml hown hts hKK hAB0 hA0 hX hbl hbA hA hL0 h0 hi1 hst tail
        · refine lv_tableIn (tgt := 1169) (off := 1136) hx hb dL_law_33 (by decide) (by decide) rfl (by decide) ?_
          exact lc_35 hx hb hml hown hts hKK hAB0 hA0 hX hbl hbA hA hL0 h0 hi1 hst tail
        · refine lv_tableIn (tgt := 1212) (off := 1179) hx hb dL_law_33 (by decide) (by decide) rfl (by decide) ?_
          exact lc_36 hx hb hml hown hts hKK hAB0 hA0 hX hbl hbA hA hL0 h0 hi1 hst tail
        · refine lv_tableIn (tgt := 1245) (off := 1212) hx hb dL_law_33 (by decide) (by decide) rfl (by decide) ?_
          exact lc_37 hx hb hml hown hts hKK hAB0 hA0 hX hbl hbA hA hL0 h0 hi1 hst tail
        · refine lv_tableIn (tgt := 1278) (off := 1245) hx hb dL_law_33 (by decide) (by decide) rfl (by decide) ?_
          exact lc_38 hx hb hml hown hts hKK hAB0 hA0 hX hbl hbA hA hL0 h0 hi1 hst tail
        · refine lv_tableIn (tgt := 1321) (off := 1288) hx hb dL_law_33 (by decide) (by decide) rfl (by decide) ?_
          exact lc_39 hx hb hml hown hts hKK hAB0 hA0 hX hbl hbA hA hL0 h0 hi1 hst tail
        · refine lv_tableIn (tgt := 1364) (off := 1331) hx hb dL_law_33 (by decide) (by decide) rfl (by decide) ?_
          exact lc_40 hx hb hml hown hts hKK hAB0 hA0 hX hbl hbA hA hL0 h0 hi1 hst tail
        · refine lv_tableIn (tgt := 1397) (off := 1364) hx hb dL_law_33 (by decide) (by decide) rfl (by decide) ?_
          exact lc_41 hx hb hml hown hts hKK hAB0 hA0 hX hbl hbA hA hL0 h0 hi1 hst tail
        · refine lv_tableIn (tgt := 1460) (off := 1427) hx hb dL_law_33 (by decide) (by decide) rfl (by decide) ?_
          exact lc_42 hx hb hml hown hts hKK hAB0 hA0 hX hbl hbA hA hL0 h0 hi1 hst tail
        · refine lv_tableIn (tgt := 1473) (off := 1440) hx hb dL_law_33 (by decide) (by decide) rfl (by decide) ?_
          exact lc_43 hx hb hml hown hts hKK hAB0 hA0 hX hbl hbA hA hL0 h0 hi1 hst tail
