
/-- Integer.numberOfLeadingZeros, as its code has it -/
def nlzT (x0 : Int32) : Int32 := if (0 : Int32) < x0 then (if x0 < 65536 then (if x0 < 256 then (if x0 < 16 then (if x0 < 4 then (31 : Int32) - ((Int32.toUInt32 x0 >>> (Int32.toUInt32 1 &&& Int32.toUInt32 31)).toInt32) else (29 : Int32) - ((Int32.toUInt32 ((Int32.toUInt32 x0 >>> (Int32.toUInt32 2 &&& Int32.toUInt32 31)).toInt32) >>> (Int32.toUInt32 1 &&& Int32.toUInt32 31)).toInt32)) else (if ((Int32.toUInt32 x0 >>> (Int32.toUInt32 4 &&& Int32.toUInt32 31)).toInt32) < 4 then (27 : Int32) - ((Int32.toUInt32 ((Int32.toUInt32 x0 >>> (Int32.toUInt32 4 &&& Int32.toUInt32 31)).toInt32) >>> (Int32.toUInt32 1 &&& Int32.toUInt32 31)).toInt32) else (25 : Int32) - ((Int32.toUInt32 ((Int32.toUInt32 ((Int32.toUInt32 x0 >>> (Int32.toUInt32 4 &&& Int32.toUInt32 31)).toInt32) >>> (Int32.toUInt32 2 &&& Int32.toUInt32 31)).toInt32) >>> (Int32.toUInt32 1 &&& Int32.toUInt32 31)).toInt32))) else (if ((Int32.toUInt32 x0 >>> (Int32.toUInt32 8 &&& Int32.toUInt32 31)).toInt32) < 16 then (if ((Int32.toUInt32 x0 >>> (Int32.toUInt32 8 &&& Int32.toUInt32 31)).toInt32) < 4 then (23 : Int32) - ((Int32.toUInt32 ((Int32.toUInt32 x0 >>> (Int32.toUInt32 8 &&& Int32.toUInt32 31)).toInt32) >>> (Int32.toUInt32 1 &&& Int32.toUInt32 31)).toInt32) else (21 : Int32) - ((Int32.toUInt32 ((Int32.toUInt32 ((Int32.toUInt32 x0 >>> (Int32.toUInt32 8 &&& Int32.toUInt32 31)).toInt32) >>> (Int32.toUInt32 2 &&& Int32.toUInt32 31)).toInt32) >>> (Int32.toUInt32 1 &&& Int32.toUInt32 31)).toInt32)) else (if ((Int32.toUInt32 ((Int32.toUInt32 x0 >>> (Int32.toUInt32 8 &&& Int32.toUInt32 31)).toInt32) >>> (Int32.toUInt32 4 &&& Int32.toUInt32 31)).toInt32) < 4 then (19 : Int32) - ((Int32.toUInt32 ((Int32.toUInt32 ((Int32.toUInt32 x0 >>> (Int32.toUInt32 8 &&& Int32.toUInt32 31)).toInt32) >>> (Int32.toUInt32 4 &&& Int32.toUInt32 31)).toInt32) >>> (Int32.toUInt32 1 &&& Int32.toUInt32 31)).toInt32) else (17 : Int32) - ((Int32.toUInt32 ((Int32.toUInt32 ((Int32.toUInt32 ((Int32.toUInt32 x0 >>> (Int32.toUInt32 8 &&& Int32.toUInt32 31)).toInt32) >>> (Int32.toUInt32 4 &&& Int32.toUInt32 31)).toInt32) >>> (Int32.toUInt32 2 &&& Int32.toUInt32 31)).toInt32) >>> (Int32.toUInt32 1 &&& Int32.toUInt32 31)).toInt32)))) else (if ((Int32.toUInt32 x0 >>> (Int32.toUInt32 16 &&& Int32.toUInt32 31)).toInt32) < 256 then (if ((Int32.toUInt32 x0 >>> (Int32.toUInt32 16 &&& Int32.toUInt32 31)).toInt32) < 16 then (if ((Int32.toUInt32 x0 >>> (Int32.toUInt32 16 &&& Int32.toUInt32 31)).toInt32) < 4 then (15 : Int32) - ((Int32.toUInt32 ((Int32.toUInt32 x0 >>> (Int32.toUInt32 16 &&& Int32.toUInt32 31)).toInt32) >>> (Int32.toUInt32 1 &&& Int32.toUInt32 31)).toInt32) else (13 : Int32) - ((Int32.toUInt32 ((Int32.toUInt32 ((Int32.toUInt32 x0 >>> (Int32.toUInt32 16 &&& Int32.toUInt32 31)).toInt32) >>> (Int32.toUInt32 2 &&& Int32.toUInt32 31)).toInt32) >>> (Int32.toUInt32 1 &&& Int32.toUInt32 31)).toInt32)) else (if ((Int32.toUInt32 ((Int32.toUInt32 x0 >>> (Int32.toUInt32 16 &&& Int32.toUInt32 31)).toInt32) >>> (Int32.toUInt32 4 &&& Int32.toUInt32 31)).toInt32) < 4 then (11 : Int32) - ((Int32.toUInt32 ((Int32.toUInt32 ((Int32.toUInt32 x0 >>> (Int32.toUInt32 16 &&& Int32.toUInt32 31)).toInt32) >>> (Int32.toUInt32 4 &&& Int32.toUInt32 31)).toInt32) >>> (Int32.toUInt32 1 &&& Int32.toUInt32 31)).toInt32) else (9 : Int32) - ((Int32.toUInt32 ((Int32.toUInt32 ((Int32.toUInt32 ((Int32.toUInt32 x0 >>> (Int32.toUInt32 16 &&& Int32.toUInt32 31)).toInt32) >>> (Int32.toUInt32 4 &&& Int32.toUInt32 31)).toInt32) >>> (Int32.toUInt32 2 &&& Int32.toUInt32 31)).toInt32) >>> (Int32.toUInt32 1 &&& Int32.toUInt32 31)).toInt32))) else (if ((Int32.toUInt32 ((Int32.toUInt32 x0 >>> (Int32.toUInt32 16 &&& Int32.toUInt32 31)).toInt32) >>> (Int32.toUInt32 8 &&& Int32.toUInt32 31)).toInt32) < 16 then (if ((Int32.toUInt32 ((Int32.toUInt32 x0 >>> (Int32.toUInt32 16 &&& Int32.toUInt32 31)).toInt32) >>> (Int32.toUInt32 8 &&& Int32.toUInt32 31)).toInt32) < 4 then (7 : Int32) - ((Int32.toUInt32 ((Int32.toUInt32 ((Int32.toUInt32 x0 >>> (Int32.toUInt32 16 &&& Int32.toUInt32 31)).toInt32) >>> (Int32.toUInt32 8 &&& Int32.toUInt32 31)).toInt32) >>> (Int32.toUInt32 1 &&& Int32.toUInt32 31)).toInt32) else (5 : Int32) - ((Int32.toUInt32 ((Int32.toUInt32 ((Int32.toUInt32 ((Int32.toUInt32 x0 >>> (Int32.toUInt32 16 &&& Int32.toUInt32 31)).toInt32) >>> (Int32.toUInt32 8 &&& Int32.toUInt32 31)).toInt32) >>> (Int32.toUInt32 2 &&& Int32.toUInt32 31)).toInt32) >>> (Int32.toUInt32 1 &&& Int32.toUInt32 31)).toInt32)) else (if ((Int32.toUInt32 ((Int32.toUInt32 ((Int32.toUInt32 x0 >>> (Int32.toUInt32 16 &&& Int32.toUInt32 31)).toInt32) >>> (Int32.toUInt32 8 &&& Int32.toUInt32 31)).toInt32) >>> (Int32.toUInt32 4 &&& Int32.toUInt32 31)).toInt32) < 4 then (3 : Int32) - ((Int32.toUInt32 ((Int32.toUInt32 ((Int32.toUInt32 ((Int32.toUInt32 x0 >>> (Int32.toUInt32 16 &&& Int32.toUInt32 31)).toInt32) >>> (Int32.toUInt32 8 &&& Int32.toUInt32 31)).toInt32) >>> (Int32.toUInt32 4 &&& Int32.toUInt32 31)).toInt32) >>> (Int32.toUInt32 1 &&& Int32.toUInt32 31)).toInt32) else (1 : Int32) - ((Int32.toUInt32 ((Int32.toUInt32 ((Int32.toUInt32 ((Int32.toUInt32 ((Int32.toUInt32 x0 >>> (Int32.toUInt32 16 &&& Int32.toUInt32 31)).toInt32) >>> (Int32.toUInt32 8 &&& Int32.toUInt32 31)).toInt32) >>> (Int32.toUInt32 4 &&& Int32.toUInt32 31)).toInt32) >>> (Int32.toUInt32 2 &&& Int32.toUInt32 31)).toInt32) >>> (Int32.toUInt32 1 &&& Int32.toUInt32 31)).toInt32))))) else (if x0 = 0 then (32 : Int32) else (0 : Int32))
set_option maxRecDepth 1000000 in
theorem nlz_all : (List.range 4096).all (fun s => decide (((31 : Int32) - nlzT (nI s) < 1 ∧ s < 2) ∨ (31 : Int32) - nlzT (nI s) = nI (Nat.log2 s))) = true := by decide +kernel
set_option maxRecDepth 1000000 in
theorem nlz_lo : (31 : Int32) - nlzT (nI 0) < 1 ∧ (31 : Int32) - nlzT (nI 1) < 1 := by decide +kernel
theorem nlz_of {s : Nat} (h : s < 4096) (h2 : 2 ≤ s) : (31 : Int32) - nlzT (nI s) = nI (Nat.log2 s) := (co_dec (P := fun s => ((31 : Int32) - nlzT (nI s) < 1 ∧ s < 2) ∨ (31 : Int32) - nlzT (nI s) = nI (Nat.log2 s)) nlz_all h).resolve_left (fun z => by omega)
theorem fa_or_sum {a k : Nat} (b : Nat) (h : a < 2 ^ k) : nI (2 ^ k * b) ||| nI a = nI (2 ^ k * b + a) := by rw [fa_or, Nat.two_pow_add_eq_or_of_lt h]
/-- what a memo holds: what it found in its age is true -/
def MV (ag k : Nat) (f g : Nat → Int32) : Prop := ∀ i, i < 4096 → ∃ v, v < 2 ^ 31 ∧ g i = nI v ∧ v / 2 ^ 16 ≤ ag ∧ (v / 2 ^ 16 = ag → v % 2 ^ 16 = nuS k f i)
/-- nothing in it is younger than its age -/
def MS (ag : Nat) (g : Nat → Int32) : Prop := ∀ i, i < 4096 → ∃ v, v < 2 ^ 31 ∧ g i = nI v ∧ v / 2 ^ 16 ≤ ag
theorem MV.ms {ag k : Nat} {f g : Nat → Int32} (h : MV ag k f g) : MS ag g := fun i hi => by
  obtain ⟨v, a, b, c, _⟩ := h i hi
  exact ⟨v, a, b, c⟩
theorem MS.mv {ag : Nat} {g : Nat → Int32} (h : MS ag g) (k : Nat) (f : Nat → Int32) : MV (ag + 1) k f g := fun i hi => by
  obtain ⟨v, a, b, c⟩ := h i hi
  exact ⟨v, a, b, by omega, fun e => by omega⟩
theorem MV.keep {ag k s : Nat} (hk : k ≤ 12) (hag : ag < 32767) {f g : Nat → Int32} (h : MV ag k f g) : MV ag k f (upd g s (nI (2 ^ 16 * ag + nuS k f s))) := fun i hi => by
  have h6 := nuS_le hk f s
  by_cases e : i = s
  · subst e
    refine ⟨2 ^ 16 * ag + nuS k f i, by omega, by simp [upd], by omega, fun _ => by omega⟩
  · obtain ⟨v, a, b, c, d⟩ := h i hi
    exact ⟨v, a, by simp [upd, e]; exact b, c, d⟩
set_option maxHeartbeats 4000000 in
set_option maxRecDepth 100000 in
theorem c_J6_numberOfLeadingZeros_0f7a4_1 (l : Launch) (D : va_G) (cI cS : ClassId) (x0 : Int32) : Met l yJ6_numberOfLeadingZeros_0f7a4 wsJ6_numberOfLeadingZeros_0f7a4 ({ frames := 0, cells := 0, slots := 0, locals := 0 }) (PS D cI cS [] [.int x0]) (vp_Si (fun r => r = if (0 : Int32) < x0 then (if x0 < 65536 then (if x0 < 256 then (if x0 < 16 then (if x0 < 4 then (31 : Int32) - ((Int32.toUInt32 x0 >>> (Int32.toUInt32 1 &&& Int32.toUInt32 31)).toInt32) else (29 : Int32) - ((Int32.toUInt32 ((Int32.toUInt32 x0 >>> (Int32.toUInt32 2 &&& Int32.toUInt32 31)).toInt32) >>> (Int32.toUInt32 1 &&& Int32.toUInt32 31)).toInt32)) else (if ((Int32.toUInt32 x0 >>> (Int32.toUInt32 4 &&& Int32.toUInt32 31)).toInt32) < 4 then (27 : Int32) - ((Int32.toUInt32 ((Int32.toUInt32 x0 >>> (Int32.toUInt32 4 &&& Int32.toUInt32 31)).toInt32) >>> (Int32.toUInt32 1 &&& Int32.toUInt32 31)).toInt32) else (25 : Int32) - ((Int32.toUInt32 ((Int32.toUInt32 ((Int32.toUInt32 x0 >>> (Int32.toUInt32 4 &&& Int32.toUInt32 31)).toInt32) >>> (Int32.toUInt32 2 &&& Int32.toUInt32 31)).toInt32) >>> (Int32.toUInt32 1 &&& Int32.toUInt32 31)).toInt32))) else (if ((Int32.toUInt32 x0 >>> (Int32.toUInt32 8 &&& Int32.toUInt32 31)).toInt32) < 16 then (if ((Int32.toUInt32 x0 >>> (Int32.toUInt32 8 &&& Int32.toUInt32 31)).toInt32) < 4 then (23 : Int32) - ((Int32.toUInt32 ((Int32.toUInt32 x0 >>> (Int32.toUInt32 8 &&& Int32.toUInt32 31)).toInt32) >>> (Int32.toUInt32 1 &&& Int32.toUInt32 31)).toInt32) else (21 : Int32) - ((Int32.toUInt32 ((Int32.toUInt32 ((Int32.toUInt32 x0 >>> (Int32.toUInt32 8 &&& Int32.toUInt32 31)).toInt32) >>> (Int32.toUInt32 2 &&& Int32.toUInt32 31)).toInt32) >>> (Int32.toUInt32 1 &&& Int32.toUInt32 31)).toInt32)) else (if ((Int32.toUInt32 ((Int32.toUInt32 x0 >>> (Int32.toUInt32 8 &&& Int32.toUInt32 31)).toInt32) >>> (Int32.toUInt32 4 &&& Int32.toUInt32 31)).toInt32) < 4 then (19 : Int32) - ((Int32.toUInt32 ((Int32.toUInt32 ((Int32.toUInt32 x0 >>> (Int32.toUInt32 8 &&& Int32.toUInt32 31)).toInt32) >>> (Int32.toUInt32 4 &&& Int32.toUInt32 31)).toInt32) >>> (Int32.toUInt32 1 &&& Int32.toUInt32 31)).toInt32) else (17 : Int32) - ((Int32.toUInt32 ((Int32.toUInt32 ((Int32.toUInt32 ((Int32.toUInt32 x0 >>> (Int32.toUInt32 8 &&& Int32.toUInt32 31)).toInt32) >>> (Int32.toUInt32 4 &&& Int32.toUInt32 31)).toInt32) >>> (Int32.toUInt32 2 &&& Int32.toUInt32 31)).toInt32) >>> (Int32.toUInt32 1 &&& Int32.toUInt32 31)).toInt32)))) else (if ((Int32.toUInt32 x0 >>> (Int32.toUInt32 16 &&& Int32.toUInt32 31)).toInt32) < 256 then (if ((Int32.toUInt32 x0 >>> (Int32.toUInt32 16 &&& Int32.toUInt32 31)).toInt32) < 16 then (if ((Int32.toUInt32 x0 >>> (Int32.toUInt32 16 &&& Int32.toUInt32 31)).toInt32) < 4 then (15 : Int32) - ((Int32.toUInt32 ((Int32.toUInt32 x0 >>> (Int32.toUInt32 16 &&& Int32.toUInt32 31)).toInt32) >>> (Int32.toUInt32 1 &&& Int32.toUInt32 31)).toInt32) else (13 : Int32) - ((Int32.toUInt32 ((Int32.toUInt32 ((Int32.toUInt32 x0 >>> (Int32.toUInt32 16 &&& Int32.toUInt32 31)).toInt32) >>> (Int32.toUInt32 2 &&& Int32.toUInt32 31)).toInt32) >>> (Int32.toUInt32 1 &&& Int32.toUInt32 31)).toInt32)) else (if ((Int32.toUInt32 ((Int32.toUInt32 x0 >>> (Int32.toUInt32 16 &&& Int32.toUInt32 31)).toInt32) >>> (Int32.toUInt32 4 &&& Int32.toUInt32 31)).toInt32) < 4 then (11 : Int32) - ((Int32.toUInt32 ((Int32.toUInt32 ((Int32.toUInt32 x0 >>> (Int32.toUInt32 16 &&& Int32.toUInt32 31)).toInt32) >>> (Int32.toUInt32 4 &&& Int32.toUInt32 31)).toInt32) >>> (Int32.toUInt32 1 &&& Int32.toUInt32 31)).toInt32) else (9 : Int32) - ((Int32.toUInt32 ((Int32.toUInt32 ((Int32.toUInt32 ((Int32.toUInt32 x0 >>> (Int32.toUInt32 16 &&& Int32.toUInt32 31)).toInt32) >>> (Int32.toUInt32 4 &&& Int32.toUInt32 31)).toInt32) >>> (Int32.toUInt32 2 &&& Int32.toUInt32 31)).toInt32) >>> (Int32.toUInt32 1 &&& Int32.toUInt32 31)).toInt32))) else (if ((Int32.toUInt32 ((Int32.toUInt32 x0 >>> (Int32.toUInt32 16 &&& Int32.toUInt32 31)).toInt32) >>> (Int32.toUInt32 8 &&& Int32.toUInt32 31)).toInt32) < 16 then (if ((Int32.toUInt32 ((Int32.toUInt32 x0 >>> (Int32.toUInt32 16 &&& Int32.toUInt32 31)).toInt32) >>> (Int32.toUInt32 8 &&& Int32.toUInt32 31)).toInt32) < 4 then (7 : Int32) - ((Int32.toUInt32 ((Int32.toUInt32 ((Int32.toUInt32 x0 >>> (Int32.toUInt32 16 &&& Int32.toUInt32 31)).toInt32) >>> (Int32.toUInt32 8 &&& Int32.toUInt32 31)).toInt32) >>> (Int32.toUInt32 1 &&& Int32.toUInt32 31)).toInt32) else (5 : Int32) - ((Int32.toUInt32 ((Int32.toUInt32 ((Int32.toUInt32 ((Int32.toUInt32 x0 >>> (Int32.toUInt32 16 &&& Int32.toUInt32 31)).toInt32) >>> (Int32.toUInt32 8 &&& Int32.toUInt32 31)).toInt32) >>> (Int32.toUInt32 2 &&& Int32.toUInt32 31)).toInt32) >>> (Int32.toUInt32 1 &&& Int32.toUInt32 31)).toInt32)) else (if ((Int32.toUInt32 ((Int32.toUInt32 ((Int32.toUInt32 x0 >>> (Int32.toUInt32 16 &&& Int32.toUInt32 31)).toInt32) >>> (Int32.toUInt32 8 &&& Int32.toUInt32 31)).toInt32) >>> (Int32.toUInt32 4 &&& Int32.toUInt32 31)).toInt32) < 4 then (3 : Int32) - ((Int32.toUInt32 ((Int32.toUInt32 ((Int32.toUInt32 ((Int32.toUInt32 x0 >>> (Int32.toUInt32 16 &&& Int32.toUInt32 31)).toInt32) >>> (Int32.toUInt32 8 &&& Int32.toUInt32 31)).toInt32) >>> (Int32.toUInt32 4 &&& Int32.toUInt32 31)).toInt32) >>> (Int32.toUInt32 1 &&& Int32.toUInt32 31)).toInt32) else (1 : Int32) - ((Int32.toUInt32 ((Int32.toUInt32 ((Int32.toUInt32 ((Int32.toUInt32 ((Int32.toUInt32 x0 >>> (Int32.toUInt32 16 &&& Int32.toUInt32 31)).toInt32) >>> (Int32.toUInt32 8 &&& Int32.toUInt32 31)).toInt32) >>> (Int32.toUInt32 4 &&& Int32.toUInt32 31)).toInt32) >>> (Int32.toUInt32 2 &&& Int32.toUInt32 31)).toInt32) >>> (Int32.toUInt32 1 &&& Int32.toUInt32 31)).toInt32))))) else (if x0 = 0 then (32 : Int32) else (0 : Int32)))) 0 0 (fun _ => False) := by
  refine Met.ofW (cc := cJ6_numberOfLeadingZeros_0f7a4) (maxL := 2) (ret := (some .int)) (by decide) rfl ?_
  intro p e s m args below meth c s₁ B hml hv
  obtain ⟨rfl, hP, hKK⟩ := hv
  have hx := B.exec
  have hb := B.bytes
  have hr := B.returns
  have hts := atoms_spec (ws := wsJ6_numberOfLeadingZeros_0f7a4) B.pre
  have hown : s.vm.findClass RJ6 = some m.cls := findClass_of_methodNamed B.named
  have hlocks := B.notSynchronized
  have hK := hKK.1
  have hN := hKK.2
  have hl := lv_entry ([.int x0]) (n := 2) (Nat.le_of_ble_eq_true rfl)
  rw [lg_entry_eq]
  generalize (lg_sl ([.int x0]) ++ List.replicate (2 - (lg_sl ([.int x0])).length) Slot.unset).toArray = ls at hl ⊢
  have hl : lv_has ls 2 [(0, .int x0)] := hl
  refine lv_iload_n hx hb dJ6_numberOfLeadingZeros_0f7a4_0 rfl (lv_at hl 0 rfl) ?_
  refine lv_if_gt (tgt := 15) hx hb dJ6_numberOfLeadingZeros_0f7a4_1 (by decide) (fun c4958 => ?_) (fun c4958 => ?_)
  · refine lv_bipush (v := 31) hx hb dJ6_numberOfLeadingZeros_0f7a4_15 (by decide) ?_
    refine lv_istore_n (lv' := [(1, .int 31), (0, .int x0)]) hx hb dJ6_numberOfLeadingZeros_0f7a4_17 rfl hl (by decide) rfl (fun ls hl => ?_)
    refine lv_iload_n hx hb dJ6_numberOfLeadingZeros_0f7a4_18 rfl (lv_at hl 1 rfl) ?_
    refine lv_ldcw hx hb hown (hts (.constant RJ6 264 (65536)) (by decide +kernel)) dJ6_numberOfLeadingZeros_0f7a4_19 ?_
    refine lv_icmp_lt (tgt := 33) hx hb dJ6_numberOfLeadingZeros_0f7a4_22 (by decide) (fun c4959 => ?_) (fun c4959 => ?_)
    · refine lv_iload_n hx hb dJ6_numberOfLeadingZeros_0f7a4_33 rfl (lv_at hl 1 rfl) ?_
      refine lv_sipush (v := 256) hx hb dJ6_numberOfLeadingZeros_0f7a4_34 (by decide) ?_
      refine lv_icmp_lt (tgt := 48) hx hb dJ6_numberOfLeadingZeros_0f7a4_37 (by decide) (fun c4960 => ?_) (fun c4960 => ?_)
      · refine lv_iload_n hx hb dJ6_numberOfLeadingZeros_0f7a4_48 rfl (lv_at hl 1 rfl) ?_
        refine lv_bipush (v := 16) hx hb dJ6_numberOfLeadingZeros_0f7a4_49 (by decide) ?_
        refine lv_icmp_lt (tgt := 61) hx hb dJ6_numberOfLeadingZeros_0f7a4_51 (by decide) (fun c4961 => ?_) (fun c4961 => ?_)
        · refine lv_iload_n hx hb dJ6_numberOfLeadingZeros_0f7a4_61 rfl (lv_at hl 1 rfl) ?_
          refine lv_iconst (v := 4) hx hb dJ6_numberOfLeadingZeros_0f7a4_62 (by decide) ?_
          refine lv_icmp_lt (tgt := 73) hx hb dJ6_numberOfLeadingZeros_0f7a4_63 (by decide) (fun c4962 => ?_) (fun c4962 => ?_)
          · refine lv_iload_n hx hb dJ6_numberOfLeadingZeros_0f7a4_73 rfl (lv_at hl 0 rfl) ?_
            refine lv_iload_n hx hb dJ6_numberOfLeadingZeros_0f7a4_74 rfl (lv_at hl 1 rfl) ?_
            refine lv_iconst (v := 1) hx hb dJ6_numberOfLeadingZeros_0f7a4_75 (by decide) ?_
            refine lv_iushr (v := (Int32.toUInt32 x0 >>> (Int32.toUInt32 1 &&& Int32.toUInt32 31)).toInt32) hx hb dJ6_numberOfLeadingZeros_0f7a4_76 rfl ?_
            refine lv_isub hx hb dJ6_numberOfLeadingZeros_0f7a4_77 ?_
            exact W.iret (v := (31 : Int32) - ((Int32.toUInt32 x0 >>> (Int32.toUInt32 1 &&& Int32.toUInt32 31)).toInt32)) hx hb hr (fun t ht hW => ⟨_, rfl, by rw [if_pos c4958, if_pos c4959, if_pos c4960, if_pos c4961, if_pos c4962], ht⟩) (fun q hq => absurd hq List.not_mem_nil) dJ6_numberOfLeadingZeros_0f7a4_78
          · refine lv_iinc (v := 29) (lv' := [(1, .int 29), (0, .int x0)]) hx hb dJ6_numberOfLeadingZeros_0f7a4_66 hl (k := 0) rfl (by decide) (by decide) rfl (fun ls hl => ?_)
            refine lv_iload_n hx hb dJ6_numberOfLeadingZeros_0f7a4_69 rfl (lv_at hl 1 rfl) ?_
            refine lv_iconst (v := 2) hx hb dJ6_numberOfLeadingZeros_0f7a4_70 (by decide) ?_
            refine lv_iushr (v := (Int32.toUInt32 x0 >>> (Int32.toUInt32 2 &&& Int32.toUInt32 31)).toInt32) hx hb dJ6_numberOfLeadingZeros_0f7a4_71 rfl ?_
            refine lv_istore_n (lv' := [(0, .int ((Int32.toUInt32 x0 >>> (Int32.toUInt32 2 &&& Int32.toUInt32 31)).toInt32)), (1, .int 29)]) hx hb dJ6_numberOfLeadingZeros_0f7a4_72 rfl hl (by decide) rfl (fun ls hl => ?_)
            refine lv_iload_n hx hb dJ6_numberOfLeadingZeros_0f7a4_73 rfl (lv_at hl 1 rfl) ?_
            refine lv_iload_n hx hb dJ6_numberOfLeadingZeros_0f7a4_74 rfl (lv_at hl 0 rfl) ?_
            refine lv_iconst (v := 1) hx hb dJ6_numberOfLeadingZeros_0f7a4_75 (by decide) ?_
            refine lv_iushr (v := (Int32.toUInt32 ((Int32.toUInt32 x0 >>> (Int32.toUInt32 2 &&& Int32.toUInt32 31)).toInt32) >>> (Int32.toUInt32 1 &&& Int32.toUInt32 31)).toInt32) hx hb dJ6_numberOfLeadingZeros_0f7a4_76 rfl ?_
            refine lv_isub hx hb dJ6_numberOfLeadingZeros_0f7a4_77 ?_
            exact W.iret (v := (29 : Int32) - ((Int32.toUInt32 ((Int32.toUInt32 x0 >>> (Int32.toUInt32 2 &&& Int32.toUInt32 31)).toInt32) >>> (Int32.toUInt32 1 &&& Int32.toUInt32 31)).toInt32)) hx hb hr (fun t ht hW => ⟨_, rfl, by rw [if_pos c4958, if_pos c4959, if_pos c4960, if_pos c4961, if_neg c4962], ht⟩) (fun q hq => absurd hq List.not_mem_nil) dJ6_numberOfLeadingZeros_0f7a4_78
        · refine lv_iinc (v := 27) (lv' := [(1, .int 27), (0, .int x0)]) hx hb dJ6_numberOfLeadingZeros_0f7a4_54 hl (k := 0) rfl (by decide) (by decide) rfl (fun ls hl => ?_)
          refine lv_iload_n hx hb dJ6_numberOfLeadingZeros_0f7a4_57 rfl (lv_at hl 1 rfl) ?_
          refine lv_iconst (v := 4) hx hb dJ6_numberOfLeadingZeros_0f7a4_58 (by decide) ?_
          refine lv_iushr (v := (Int32.toUInt32 x0 >>> (Int32.toUInt32 4 &&& Int32.toUInt32 31)).toInt32) hx hb dJ6_numberOfLeadingZeros_0f7a4_59 rfl ?_
          refine lv_istore_n (lv' := [(0, .int ((Int32.toUInt32 x0 >>> (Int32.toUInt32 4 &&& Int32.toUInt32 31)).toInt32)), (1, .int 27)]) hx hb dJ6_numberOfLeadingZeros_0f7a4_60 rfl hl (by decide) rfl (fun ls hl => ?_)
          refine lv_iload_n hx hb dJ6_numberOfLeadingZeros_0f7a4_61 rfl (lv_at hl 0 rfl) ?_
          refine lv_iconst (v := 4) hx hb dJ6_numberOfLeadingZeros_0f7a4_62 (by decide) ?_
          refine lv_icmp_lt (tgt := 73) hx hb dJ6_numberOfLeadingZeros_0f7a4_63 (by decide) (fun c4963 => ?_) (fun c4963 => ?_)
          · refine lv_iload_n hx hb dJ6_numberOfLeadingZeros_0f7a4_73 rfl (lv_at hl 1 rfl) ?_
            refine lv_iload_n hx hb dJ6_numberOfLeadingZeros_0f7a4_74 rfl (lv_at hl 0 rfl) ?_
            refine lv_iconst (v := 1) hx hb dJ6_numberOfLeadingZeros_0f7a4_75 (by decide) ?_
            refine lv_iushr (v := (Int32.toUInt32 ((Int32.toUInt32 x0 >>> (Int32.toUInt32 4 &&& Int32.toUInt32 31)).toInt32) >>> (Int32.toUInt32 1 &&& Int32.toUInt32 31)).toInt32) hx hb dJ6_numberOfLeadingZeros_0f7a4_76 rfl ?_
            refine lv_isub hx hb dJ6_numberOfLeadingZeros_0f7a4_77 ?_
            exact W.iret (v := (27 : Int32) - ((Int32.toUInt32 ((Int32.toUInt32 x0 >>> (Int32.toUInt32 4 &&& Int32.toUInt32 31)).toInt32) >>> (Int32.toUInt32 1 &&& Int32.toUInt32 31)).toInt32)) hx hb hr (fun t ht hW => ⟨_, rfl, by rw [if_pos c4958, if_pos c4959, if_pos c4960, if_neg c4961, if_pos c4963], ht⟩) (fun q hq => absurd hq List.not_mem_nil) dJ6_numberOfLeadingZeros_0f7a4_78
          · refine lv_iinc (v := 25) (lv' := [(1, .int 25), (0, .int ((Int32.toUInt32 x0 >>> (Int32.toUInt32 4 &&& Int32.toUInt32 31)).toInt32))]) hx hb dJ6_numberOfLeadingZeros_0f7a4_66 hl (k := 1) rfl (by decide) (by decide) rfl (fun ls hl => ?_)
            refine lv_iload_n hx hb dJ6_numberOfLeadingZeros_0f7a4_69 rfl (lv_at hl 1 rfl) ?_
            refine lv_iconst (v := 2) hx hb dJ6_numberOfLeadingZeros_0f7a4_70 (by decide) ?_
            refine lv_iushr (v := (Int32.toUInt32 ((Int32.toUInt32 x0 >>> (Int32.toUInt32 4 &&& Int32.toUInt32 31)).toInt32) >>> (Int32.toUInt32 2 &&& Int32.toUInt32 31)).toInt32) hx hb dJ6_numberOfLeadingZeros_0f7a4_71 rfl ?_
            refine lv_istore_n (lv' := [(0, .int ((Int32.toUInt32 ((Int32.toUInt32 x0 >>> (Int32.toUInt32 4 &&& Int32.toUInt32 31)).toInt32) >>> (Int32.toUInt32 2 &&& Int32.toUInt32 31)).toInt32)), (1, .int 25)]) hx hb dJ6_numberOfLeadingZeros_0f7a4_72 rfl hl (by decide) rfl (fun ls hl => ?_)
            refine lv_iload_n hx hb dJ6_numberOfLeadingZeros_0f7a4_73 rfl (lv_at hl 1 rfl) ?_
            refine lv_iload_n hx hb dJ6_numberOfLeadingZeros_0f7a4_74 rfl (lv_at hl 0 rfl) ?_
            refine lv_iconst (v := 1) hx hb dJ6_numberOfLeadingZeros_0f7a4_75 (by decide) ?_
            refine lv_iushr (v := (Int32.toUInt32 ((Int32.toUInt32 ((Int32.toUInt32 x0 >>> (Int32.toUInt32 4 &&& Int32.toUInt32 31)).toInt32) >>> (Int32.toUInt32 2 &&& Int32.toUInt32 31)).toInt32) >>> (Int32.toUInt32 1 &&& Int32.toUInt32 31)).toInt32) hx hb dJ6_numberOfLeadingZeros_0f7a4_76 rfl ?_
            refine lv_isub hx hb dJ6_numberOfLeadingZeros_0f7a4_77 ?_
            exact W.iret (v := (25 : Int32) - ((Int32.toUInt32 ((Int32.toUInt32 ((Int32.toUInt32 x0 >>> (Int32.toUInt32 4 &&& Int32.toUInt32 31)).toInt32) >>> (Int32.toUInt32 2 &&& Int32.toUInt32 31)).toInt32) >>> (Int32.toUInt32 1 &&& Int32.toUInt32 31)).toInt32)) hx hb hr (fun t ht hW => ⟨_, rfl, by rw [if_pos c4958, if_pos c4959, if_pos c4960, if_neg c4961, if_neg c4963], ht⟩) (fun q hq => absurd hq List.not_mem_nil) dJ6_numberOfLeadingZeros_0f7a4_78
      · refine lv_iinc (v := 23) (lv' := [(1, .int 23), (0, .int x0)]) hx hb dJ6_numberOfLeadingZeros_0f7a4_40 hl (k := 0) rfl (by decide) (by decide) rfl (fun ls hl => ?_)
        refine lv_iload_n hx hb dJ6_numberOfLeadingZeros_0f7a4_43 rfl (lv_at hl 1 rfl) ?_
        refine lv_bipush (v := 8) hx hb dJ6_numberOfLeadingZeros_0f7a4_44 (by decide) ?_
        refine lv_iushr (v := (Int32.toUInt32 x0 >>> (Int32.toUInt32 8 &&& Int32.toUInt32 31)).toInt32) hx hb dJ6_numberOfLeadingZeros_0f7a4_46 rfl ?_
        refine lv_istore_n (lv' := [(0, .int ((Int32.toUInt32 x0 >>> (Int32.toUInt32 8 &&& Int32.toUInt32 31)).toInt32)), (1, .int 23)]) hx hb dJ6_numberOfLeadingZeros_0f7a4_47 rfl hl (by decide) rfl (fun ls hl => ?_)
        refine lv_iload_n hx hb dJ6_numberOfLeadingZeros_0f7a4_48 rfl (lv_at hl 0 rfl) ?_
        refine lv_bipush (v := 16) hx hb dJ6_numberOfLeadingZeros_0f7a4_49 (by decide) ?_
        refine lv_icmp_lt (tgt := 61) hx hb dJ6_numberOfLeadingZeros_0f7a4_51 (by decide) (fun c4964 => ?_) (fun c4964 => ?_)
        · refine lv_iload_n hx hb dJ6_numberOfLeadingZeros_0f7a4_61 rfl (lv_at hl 0 rfl) ?_
          refine lv_iconst (v := 4) hx hb dJ6_numberOfLeadingZeros_0f7a4_62 (by decide) ?_
          refine lv_icmp_lt (tgt := 73) hx hb dJ6_numberOfLeadingZeros_0f7a4_63 (by decide) (fun c4965 => ?_) (fun c4965 => ?_)
          · refine lv_iload_n hx hb dJ6_numberOfLeadingZeros_0f7a4_73 rfl (lv_at hl 1 rfl) ?_
            refine lv_iload_n hx hb dJ6_numberOfLeadingZeros_0f7a4_74 rfl (lv_at hl 0 rfl) ?_
            refine lv_iconst (v := 1) hx hb dJ6_numberOfLeadingZeros_0f7a4_75 (by decide) ?_
            refine lv_iushr (v := (Int32.toUInt32 ((Int32.toUInt32 x0 >>> (Int32.toUInt32 8 &&& Int32.toUInt32 31)).toInt32) >>> (Int32.toUInt32 1 &&& Int32.toUInt32 31)).toInt32) hx hb dJ6_numberOfLeadingZeros_0f7a4_76 rfl ?_
            refine lv_isub hx hb dJ6_numberOfLeadingZeros_0f7a4_77 ?_
            exact W.iret (v := (23 : Int32) - ((Int32.toUInt32 ((Int32.toUInt32 x0 >>> (Int32.toUInt32 8 &&& Int32.toUInt32 31)).toInt32) >>> (Int32.toUInt32 1 &&& Int32.toUInt32 31)).toInt32)) hx hb hr (fun t ht hW => ⟨_, rfl, by rw [if_pos c4958, if_pos c4959, if_neg c4960, if_pos c4964, if_pos c4965], ht⟩) (fun q hq => absurd hq List.not_mem_nil) dJ6_numberOfLeadingZeros_0f7a4_78
          · refine lv_iinc (v := 21) (lv' := [(1, .int 21), (0, .int ((Int32.toUInt32 x0 >>> (Int32.toUInt32 8 &&& Int32.toUInt32 31)).toInt32))]) hx hb dJ6_numberOfLeadingZeros_0f7a4_66 hl (k := 1) rfl (by decide) (by decide) rfl (fun ls hl => ?_)
            refine lv_iload_n hx hb dJ6_numberOfLeadingZeros_0f7a4_69 rfl (lv_at hl 1 rfl) ?_
            refine lv_iconst (v := 2) hx hb dJ6_numberOfLeadingZeros_0f7a4_70 (by decide) ?_
            refine lv_iushr (v := (Int32.toUInt32 ((Int32.toUInt32 x0 >>> (Int32.toUInt32 8 &&& Int32.toUInt32 31)).toInt32) >>> (Int32.toUInt32 2 &&& Int32.toUInt32 31)).toInt32) hx hb dJ6_numberOfLeadingZeros_0f7a4_71 rfl ?_
            refine lv_istore_n (lv' := [(0, .int ((Int32.toUInt32 ((Int32.toUInt32 x0 >>> (Int32.toUInt32 8 &&& Int32.toUInt32 31)).toInt32) >>> (Int32.toUInt32 2 &&& Int32.toUInt32 31)).toInt32)), (1, .int 21)]) hx hb dJ6_numberOfLeadingZeros_0f7a4_72 rfl hl (by decide) rfl (fun ls hl => ?_)
            refine lv_iload_n hx hb dJ6_numberOfLeadingZeros_0f7a4_73 rfl (lv_at hl 1 rfl) ?_
            refine lv_iload_n hx hb dJ6_numberOfLeadingZeros_0f7a4_74 rfl (lv_at hl 0 rfl) ?_
            refine lv_iconst (v := 1) hx hb dJ6_numberOfLeadingZeros_0f7a4_75 (by decide) ?_
            refine lv_iushr (v := (Int32.toUInt32 ((Int32.toUInt32 ((Int32.toUInt32 x0 >>> (Int32.toUInt32 8 &&& Int32.toUInt32 31)).toInt32) >>> (Int32.toUInt32 2 &&& Int32.toUInt32 31)).toInt32) >>> (Int32.toUInt32 1 &&& Int32.toUInt32 31)).toInt32) hx hb dJ6_numberOfLeadingZeros_0f7a4_76 rfl ?_
            refine lv_isub hx hb dJ6_numberOfLeadingZeros_0f7a4_77 ?_
            exact W.iret (v := (21 : Int32) - ((Int32.toUInt32 ((Int32.toUInt32 ((Int32.toUInt32 x0 >>> (Int32.toUInt32 8 &&& Int32.toUInt32 31)).toInt32) >>> (Int32.toUInt32 2 &&& Int32.toUInt32 31)).toInt32) >>> (Int32.toUInt32 1 &&& Int32.toUInt32 31)).toInt32)) hx hb hr (fun t ht hW => ⟨_, rfl, by rw [if_pos c4958, if_pos c4959, if_neg c4960, if_pos c4964, if_neg c4965], ht⟩) (fun q hq => absurd hq List.not_mem_nil) dJ6_numberOfLeadingZeros_0f7a4_78
        · refine lv_iinc (v := 19) (lv' := [(1, .int 19), (0, .int ((Int32.toUInt32 x0 >>> (Int32.toUInt32 8 &&& Int32.toUInt32 31)).toInt32))]) hx hb dJ6_numberOfLeadingZeros_0f7a4_54 hl (k := 1) rfl (by decide) (by decide) rfl (fun ls hl => ?_)
          refine lv_iload_n hx hb dJ6_numberOfLeadingZeros_0f7a4_57 rfl (lv_at hl 1 rfl) ?_
          refine lv_iconst (v := 4) hx hb dJ6_numberOfLeadingZeros_0f7a4_58 (by decide) ?_
          refine lv_iushr (v := (Int32.toUInt32 ((Int32.toUInt32 x0 >>> (Int32.toUInt32 8 &&& Int32.toUInt32 31)).toInt32) >>> (Int32.toUInt32 4 &&& Int32.toUInt32 31)).toInt32) hx hb dJ6_numberOfLeadingZeros_0f7a4_59 rfl ?_
          refine lv_istore_n (lv' := [(0, .int ((Int32.toUInt32 ((Int32.toUInt32 x0 >>> (Int32.toUInt32 8 &&& Int32.toUInt32 31)).toInt32) >>> (Int32.toUInt32 4 &&& Int32.toUInt32 31)).toInt32)), (1, .int 19)]) hx hb dJ6_numberOfLeadingZeros_0f7a4_60 rfl hl (by decide) rfl (fun ls hl => ?_)
          refine lv_iload_n hx hb dJ6_numberOfLeadingZeros_0f7a4_61 rfl (lv_at hl 0 rfl) ?_
          refine lv_iconst (v := 4) hx hb dJ6_numberOfLeadingZeros_0f7a4_62 (by decide) ?_
          refine lv_icmp_lt (tgt := 73) hx hb dJ6_numberOfLeadingZeros_0f7a4_63 (by decide) (fun c4966 => ?_) (fun c4966 => ?_)
          · refine lv_iload_n hx hb dJ6_numberOfLeadingZeros_0f7a4_73 rfl (lv_at hl 1 rfl) ?_
            refine lv_iload_n hx hb dJ6_numberOfLeadingZeros_0f7a4_74 rfl (lv_at hl 0 rfl) ?_
            refine lv_iconst (v := 1) hx hb dJ6_numberOfLeadingZeros_0f7a4_75 (by decide) ?_
            refine lv_iushr (v := (Int32.toUInt32 ((Int32.toUInt32 ((Int32.toUInt32 x0 >>> (Int32.toUInt32 8 &&& Int32.toUInt32 31)).toInt32) >>> (Int32.toUInt32 4 &&& Int32.toUInt32 31)).toInt32) >>> (Int32.toUInt32 1 &&& Int32.toUInt32 31)).toInt32) hx hb dJ6_numberOfLeadingZeros_0f7a4_76 rfl ?_
            refine lv_isub hx hb dJ6_numberOfLeadingZeros_0f7a4_77 ?_
            exact W.iret (v := (19 : Int32) - ((Int32.toUInt32 ((Int32.toUInt32 ((Int32.toUInt32 x0 >>> (Int32.toUInt32 8 &&& Int32.toUInt32 31)).toInt32) >>> (Int32.toUInt32 4 &&& Int32.toUInt32 31)).toInt32) >>> (Int32.toUInt32 1 &&& Int32.toUInt32 31)).toInt32)) hx hb hr (fun t ht hW => ⟨_, rfl, by rw [if_pos c4958, if_pos c4959, if_neg c4960, if_neg c4964, if_pos c4966], ht⟩) (fun q hq => absurd hq List.not_mem_nil) dJ6_numberOfLeadingZeros_0f7a4_78
          · refine lv_iinc (v := 17) (lv' := [(1, .int 17), (0, .int ((Int32.toUInt32 ((Int32.toUInt32 x0 >>> (Int32.toUInt32 8 &&& Int32.toUInt32 31)).toInt32) >>> (Int32.toUInt32 4 &&& Int32.toUInt32 31)).toInt32))]) hx hb dJ6_numberOfLeadingZeros_0f7a4_66 hl (k := 1) rfl (by decide) (by decide) rfl (fun ls hl => ?_)
            refine lv_iload_n hx hb dJ6_numberOfLeadingZeros_0f7a4_69 rfl (lv_at hl 1 rfl) ?_
            refine lv_iconst (v := 2) hx hb dJ6_numberOfLeadingZeros_0f7a4_70 (by decide) ?_
            refine lv_iushr (v := (Int32.toUInt32 ((Int32.toUInt32 ((Int32.toUInt32 x0 >>> (Int32.toUInt32 8 &&& Int32.toUInt32 31)).toInt32) >>> (Int32.toUInt32 4 &&& Int32.toUInt32 31)).toInt32) >>> (Int32.toUInt32 2 &&& Int32.toUInt32 31)).toInt32) hx hb dJ6_numberOfLeadingZeros_0f7a4_71 rfl ?_
            refine lv_istore_n (lv' := [(0, .int ((Int32.toUInt32 ((Int32.toUInt32 ((Int32.toUInt32 x0 >>> (Int32.toUInt32 8 &&& Int32.toUInt32 31)).toInt32) >>> (Int32.toUInt32 4 &&& Int32.toUInt32 31)).toInt32) >>> (Int32.toUInt32 2 &&& Int32.toUInt32 31)).toInt32)), (1, .int 17)]) hx hb dJ6_numberOfLeadingZeros_0f7a4_72 rfl hl (by decide) rfl (fun ls hl => ?_)
            refine lv_iload_n hx hb dJ6_numberOfLeadingZeros_0f7a4_73 rfl (lv_at hl 1 rfl) ?_
            refine lv_iload_n hx hb dJ6_numberOfLeadingZeros_0f7a4_74 rfl (lv_at hl 0 rfl) ?_
            refine lv_iconst (v := 1) hx hb dJ6_numberOfLeadingZeros_0f7a4_75 (by decide) ?_
            refine lv_iushr (v := (Int32.toUInt32 ((Int32.toUInt32 ((Int32.toUInt32 ((Int32.toUInt32 x0 >>> (Int32.toUInt32 8 &&& Int32.toUInt32 31)).toInt32) >>> (Int32.toUInt32 4 &&& Int32.toUInt32 31)).toInt32) >>> (Int32.toUInt32 2 &&& Int32.toUInt32 31)).toInt32) >>> (Int32.toUInt32 1 &&& Int32.toUInt32 31)).toInt32) hx hb dJ6_numberOfLeadingZeros_0f7a4_76 rfl ?_
            refine lv_isub hx hb dJ6_numberOfLeadingZeros_0f7a4_77 ?_
            exact W.iret (v := (17 : Int32) - ((Int32.toUInt32 ((Int32.toUInt32 ((Int32.toUInt32 ((Int32.toUInt32 x0 >>> (Int32.toUInt32 8 &&& Int32.toUInt32 31)).toInt32) >>> (Int32.toUInt32 4 &&& Int32.toUInt32 31)).toInt32) >>> (Int32.toUInt32 2 &&& Int32.toUInt32 31)).toInt32) >>> (Int32.toUInt32 1 &&& Int32.toUInt32 31)).toInt32)) hx hb hr (fun t ht hW => ⟨_, rfl, by rw [if_pos c4958, if_pos c4959, if_neg c4960, if_neg c4964, if_neg c4966], ht⟩) (fun q hq => absurd hq List.not_mem_nil) dJ6_numberOfLeadingZeros_0f7a4_78
    · refine lv_iinc (v := 15) (lv' := [(1, .int 15), (0, .int x0)]) hx hb dJ6_numberOfLeadingZeros_0f7a4_25 hl (k := 0) rfl (by decide) (by decide) rfl (fun ls hl => ?_)
      refine lv_iload_n hx hb dJ6_numberOfLeadingZeros_0f7a4_28 rfl (lv_at hl 1 rfl) ?_
      refine lv_bipush (v := 16) hx hb dJ6_numberOfLeadingZeros_0f7a4_29 (by decide) ?_
      refine lv_iushr (v := (Int32.toUInt32 x0 >>> (Int32.toUInt32 16 &&& Int32.toUInt32 31)).toInt32) hx hb dJ6_numberOfLeadingZeros_0f7a4_31 rfl ?_
      refine lv_istore_n (lv' := [(0, .int ((Int32.toUInt32 x0 >>> (Int32.toUInt32 16 &&& Int32.toUInt32 31)).toInt32)), (1, .int 15)]) hx hb dJ6_numberOfLeadingZeros_0f7a4_32 rfl hl (by decide) rfl (fun ls hl => ?_)
      refine lv_iload_n hx hb dJ6_numberOfLeadingZeros_0f7a4_33 rfl (lv_at hl 0 rfl) ?_
      refine lv_sipush (v := 256) hx hb dJ6_numberOfLeadingZeros_0f7a4_34 (by decide) ?_
      refine lv_icmp_lt (tgt := 48) hx hb dJ6_numberOfLeadingZeros_0f7a4_37 (by decide) (fun c4967 => ?_) (fun c4967 => ?_)
      · refine lv_iload_n hx hb dJ6_numberOfLeadingZeros_0f7a4_48 rfl (lv_at hl 0 rfl) ?_
        refine lv_bipush (v := 16) hx hb dJ6_numberOfLeadingZeros_0f7a4_49 (by decide) ?_
        refine lv_icmp_lt (tgt := 61) hx hb dJ6_numberOfLeadingZeros_0f7a4_51 (by decide) (fun c4968 => ?_) (fun c4968 => ?_)
        · refine lv_iload_n hx hb dJ6_numberOfLeadingZeros_0f7a4_61 rfl (lv_at hl 0 rfl) ?_
          refine lv_iconst (v := 4) hx hb dJ6_numberOfLeadingZeros_0f7a4_62 (by decide) ?_
          refine lv_icmp_lt (tgt := 73) hx hb dJ6_numberOfLeadingZeros_0f7a4_63 (by decide) (fun c4969 => ?_) (fun c4969 => ?_)
          · refine lv_iload_n hx hb dJ6_numberOfLeadingZeros_0f7a4_73 rfl (lv_at hl 1 rfl) ?_
            refine lv_iload_n hx hb dJ6_numberOfLeadingZeros_0f7a4_74 rfl (lv_at hl 0 rfl) ?_
            refine lv_iconst (v := 1) hx hb dJ6_numberOfLeadingZeros_0f7a4_75 (by decide) ?_
            refine lv_iushr (v := (Int32.toUInt32 ((Int32.toUInt32 x0 >>> (Int32.toUInt32 16 &&& Int32.toUInt32 31)).toInt32) >>> (Int32.toUInt32 1 &&& Int32.toUInt32 31)).toInt32) hx hb dJ6_numberOfLeadingZeros_0f7a4_76 rfl ?_
            refine lv_isub hx hb dJ6_numberOfLeadingZeros_0f7a4_77 ?_
            exact W.iret (v := (15 : Int32) - ((Int32.toUInt32 ((Int32.toUInt32 x0 >>> (Int32.toUInt32 16 &&& Int32.toUInt32 31)).toInt32) >>> (Int32.toUInt32 1 &&& Int32.toUInt32 31)).toInt32)) hx hb hr (fun t ht hW => ⟨_, rfl, by rw [if_pos c4958, if_neg c4959, if_pos c4967, if_pos c4968, if_pos c4969], ht⟩) (fun q hq => absurd hq List.not_mem_nil) dJ6_numberOfLeadingZeros_0f7a4_78
          · refine lv_iinc (v := 13) (lv' := [(1, .int 13), (0, .int ((Int32.toUInt32 x0 >>> (Int32.toUInt32 16 &&& Int32.toUInt32 31)).toInt32))]) hx hb dJ6_numberOfLeadingZeros_0f7a4_66 hl (k := 1) rfl (by decide) (by decide) rfl (fun ls hl => ?_)
            refine lv_iload_n hx hb dJ6_numberOfLeadingZeros_0f7a4_69 rfl (lv_at hl 1 rfl) ?_
            refine lv_iconst (v := 2) hx hb dJ6_numberOfLeadingZeros_0f7a4_70 (by decide) ?_
            refine lv_iushr (v := (Int32.toUInt32 ((Int32.toUInt32 x0 >>> (Int32.toUInt32 16 &&& Int32.toUInt32 31)).toInt32) >>> (Int32.toUInt32 2 &&& Int32.toUInt32 31)).toInt32) hx hb dJ6_numberOfLeadingZeros_0f7a4_71 rfl ?_
            refine lv_istore_n (lv' := [(0, .int ((Int32.toUInt32 ((Int32.toUInt32 x0 >>> (Int32.toUInt32 16 &&& Int32.toUInt32 31)).toInt32) >>> (Int32.toUInt32 2 &&& Int32.toUInt32 31)).toInt32)), (1, .int 13)]) hx hb dJ6_numberOfLeadingZeros_0f7a4_72 rfl hl (by decide) rfl (fun ls hl => ?_)
            refine lv_iload_n hx hb dJ6_numberOfLeadingZeros_0f7a4_73 rfl (lv_at hl 1 rfl) ?_
            refine lv_iload_n hx hb dJ6_numberOfLeadingZeros_0f7a4_74 rfl (lv_at hl 0 rfl) ?_
            refine lv_iconst (v := 1) hx hb dJ6_numberOfLeadingZeros_0f7a4_75 (by decide) ?_
            refine lv_iushr (v := (Int32.toUInt32 ((Int32.toUInt32 ((Int32.toUInt32 x0 >>> (Int32.toUInt32 16 &&& Int32.toUInt32 31)).toInt32) >>> (Int32.toUInt32 2 &&& Int32.toUInt32 31)).toInt32) >>> (Int32.toUInt32 1 &&& Int32.toUInt32 31)).toInt32) hx hb dJ6_numberOfLeadingZeros_0f7a4_76 rfl ?_
            refine lv_isub hx hb dJ6_numberOfLeadingZeros_0f7a4_77 ?_
            exact W.iret (v := (13 : Int32) - ((Int32.toUInt32 ((Int32.toUInt32 ((Int32.toUInt32 x0 >>> (Int32.toUInt32 16 &&& Int32.toUInt32 31)).toInt32) >>> (Int32.toUInt32 2 &&& Int32.toUInt32 31)).toInt32) >>> (Int32.toUInt32 1 &&& Int32.toUInt32 31)).toInt32)) hx hb hr (fun t ht hW => ⟨_, rfl, by rw [if_pos c4958, if_neg c4959, if_pos c4967, if_pos c4968, if_neg c4969], ht⟩) (fun q hq => absurd hq List.not_mem_nil) dJ6_numberOfLeadingZeros_0f7a4_78
        · refine lv_iinc (v := 11) (lv' := [(1, .int 11), (0, .int ((Int32.toUInt32 x0 >>> (Int32.toUInt32 16 &&& Int32.toUInt32 31)).toInt32))]) hx hb dJ6_numberOfLeadingZeros_0f7a4_54 hl (k := 1) rfl (by decide) (by decide) rfl (fun ls hl => ?_)
          refine lv_iload_n hx hb dJ6_numberOfLeadingZeros_0f7a4_57 rfl (lv_at hl 1 rfl) ?_
          refine lv_iconst (v := 4) hx hb dJ6_numberOfLeadingZeros_0f7a4_58 (by decide) ?_
          refine lv_iushr (v := (Int32.toUInt32 ((Int32.toUInt32 x0 >>> (Int32.toUInt32 16 &&& Int32.toUInt32 31)).toInt32) >>> (Int32.toUInt32 4 &&& Int32.toUInt32 31)).toInt32) hx hb dJ6_numberOfLeadingZeros_0f7a4_59 rfl ?_
          refine lv_istore_n (lv' := [(0, .int ((Int32.toUInt32 ((Int32.toUInt32 x0 >>> (Int32.toUInt32 16 &&& Int32.toUInt32 31)).toInt32) >>> (Int32.toUInt32 4 &&& Int32.toUInt32 31)).toInt32)), (1, .int 11)]) hx hb dJ6_numberOfLeadingZeros_0f7a4_60 rfl hl (by decide) rfl (fun ls hl => ?_)
          refine lv_iload_n hx hb dJ6_numberOfLeadingZeros_0f7a4_61 rfl (lv_at hl 0 rfl) ?_
          refine lv_iconst (v := 4) hx hb dJ6_numberOfLeadingZeros_0f7a4_62 (by decide) ?_
          refine lv_icmp_lt (tgt := 73) hx hb dJ6_numberOfLeadingZeros_0f7a4_63 (by decide) (fun c4970 => ?_) (fun c4970 => ?_)
          · refine lv_iload_n hx hb dJ6_numberOfLeadingZeros_0f7a4_73 rfl (lv_at hl 1 rfl) ?_
            refine lv_iload_n hx hb dJ6_numberOfLeadingZeros_0f7a4_74 rfl (lv_at hl 0 rfl) ?_
            refine lv_iconst (v := 1) hx hb dJ6_numberOfLeadingZeros_0f7a4_75 (by decide) ?_
            refine lv_iushr (v := (Int32.toUInt32 ((Int32.toUInt32 ((Int32.toUInt32 x0 >>> (Int32.toUInt32 16 &&& Int32.toUInt32 31)).toInt32) >>> (Int32.toUInt32 4 &&& Int32.toUInt32 31)).toInt32) >>> (Int32.toUInt32 1 &&& Int32.toUInt32 31)).toInt32) hx hb dJ6_numberOfLeadingZeros_0f7a4_76 rfl ?_
            refine lv_isub hx hb dJ6_numberOfLeadingZeros_0f7a4_77 ?_
            exact W.iret (v := (11 : Int32) - ((Int32.toUInt32 ((Int32.toUInt32 ((Int32.toUInt32 x0 >>> (Int32.toUInt32 16 &&& Int32.toUInt32 31)).toInt32) >>> (Int32.toUInt32 4 &&& Int32.toUInt32 31)).toInt32) >>> (Int32.toUInt32 1 &&& Int32.toUInt32 31)).toInt32)) hx hb hr (fun t ht hW => ⟨_, rfl, by rw [if_pos c4958, if_neg c4959, if_pos c4967, if_neg c4968, if_pos c4970], ht⟩) (fun q hq => absurd hq List.not_mem_nil) dJ6_numberOfLeadingZeros_0f7a4_78
          · refine lv_iinc (v := 9) (lv' := [(1, .int 9), (0, .int ((Int32.toUInt32 ((Int32.toUInt32 x0 >>> (Int32.toUInt32 16 &&& Int32.toUInt32 31)).toInt32) >>> (Int32.toUInt32 4 &&& Int32.toUInt32 31)).toInt32))]) hx hb dJ6_numberOfLeadingZeros_0f7a4_66 hl (k := 1) rfl (by decide) (by decide) rfl (fun ls hl => ?_)
            refine lv_iload_n hx hb dJ6_numberOfLeadingZeros_0f7a4_69 rfl (lv_at hl 1 rfl) ?_
            refine lv_iconst (v := 2) hx hb dJ6_numberOfLeadingZeros_0f7a4_70 (by decide) ?_
            refine lv_iushr (v := (Int32.toUInt32 ((Int32.toUInt32 ((Int32.toUInt32 x0 >>> (Int32.toUInt32 16 &&& Int32.toUInt32 31)).toInt32) >>> (Int32.toUInt32 4 &&& Int32.toUInt32 31)).toInt32) >>> (Int32.toUInt32 2 &&& Int32.toUInt32 31)).toInt32) hx hb dJ6_numberOfLeadingZeros_0f7a4_71 rfl ?_
            refine lv_istore_n (lv' := [(0, .int ((Int32.toUInt32 ((Int32.toUInt32 ((Int32.toUInt32 x0 >>> (Int32.toUInt32 16 &&& Int32.toUInt32 31)).toInt32) >>> (Int32.toUInt32 4 &&& Int32.toUInt32 31)).toInt32) >>> (Int32.toUInt32 2 &&& Int32.toUInt32 31)).toInt32)), (1, .int 9)]) hx hb dJ6_numberOfLeadingZeros_0f7a4_72 rfl hl (by decide) rfl (fun ls hl => ?_)
            refine lv_iload_n hx hb dJ6_numberOfLeadingZeros_0f7a4_73 rfl (lv_at hl 1 rfl) ?_
            refine lv_iload_n hx hb dJ6_numberOfLeadingZeros_0f7a4_74 rfl (lv_at hl 0 rfl) ?_
            refine lv_iconst (v := 1) hx hb dJ6_numberOfLeadingZeros_0f7a4_75 (by decide) ?_
            refine lv_iushr (v := (Int32.toUInt32 ((Int32.toUInt32 ((Int32.toUInt32 ((Int32.toUInt32 x0 >>> (Int32.toUInt32 16 &&& Int32.toUInt32 31)).toInt32) >>> (Int32.toUInt32 4 &&& Int32.toUInt32 31)).toInt32) >>> (Int32.toUInt32 2 &&& Int32.toUInt32 31)).toInt32) >>> (Int32.toUInt32 1 &&& Int32.toUInt32 31)).toInt32) hx hb dJ6_numberOfLeadingZeros_0f7a4_76 rfl ?_
            refine lv_isub hx hb dJ6_numberOfLeadingZeros_0f7a4_77 ?_
            exact W.iret (v := (9 : Int32) - ((Int32.toUInt32 ((Int32.toUInt32 ((Int32.toUInt32 ((Int32.toUInt32 x0 >>> (Int32.toUInt32 16 &&& Int32.toUInt32 31)).toInt32) >>> (Int32.toUInt32 4 &&& Int32.toUInt32 31)).toInt32) >>> (Int32.toUInt32 2 &&& Int32.toUInt32 31)).toInt32) >>> (Int32.toUInt32 1 &&& Int32.toUInt32 31)).toInt32)) hx hb hr (fun t ht hW => ⟨_, rfl, by rw [if_pos c4958, if_neg c4959, if_pos c4967, if_neg c4968, if_neg c4970], ht⟩) (fun q hq => absurd hq List.not_mem_nil) dJ6_numberOfLeadingZeros_0f7a4_78
      · refine lv_iinc (v := 7) (lv' := [(1, .int 7), (0, .int ((Int32.toUInt32 x0 >>> (Int32.toUInt32 16 &&& Int32.toUInt32 31)).toInt32))]) hx hb dJ6_numberOfLeadingZeros_0f7a4_40 hl (k := 1) rfl (by decide) (by decide) rfl (fun ls hl => ?_)
        refine lv_iload_n hx hb dJ6_numberOfLeadingZeros_0f7a4_43 rfl (lv_at hl 1 rfl) ?_
        refine lv_bipush (v := 8) hx hb dJ6_numberOfLeadingZeros_0f7a4_44 (by decide) ?_
        refine lv_iushr (v := (Int32.toUInt32 ((Int32.toUInt32 x0 >>> (Int32.toUInt32 16 &&& Int32.toUInt32 31)).toInt32) >>> (Int32.toUInt32 8 &&& Int32.toUInt32 31)).toInt32) hx hb dJ6_numberOfLeadingZeros_0f7a4_46 rfl ?_
        refine lv_istore_n (lv' := [(0, .int ((Int32.toUInt32 ((Int32.toUInt32 x0 >>> (Int32.toUInt32 16 &&& Int32.toUInt32 31)).toInt32) >>> (Int32.toUInt32 8 &&& Int32.toUInt32 31)).toInt32)), (1, .int 7)]) hx hb dJ6_numberOfLeadingZeros_0f7a4_47 rfl hl (by decide) rfl (fun ls hl => ?_)
        refine lv_iload_n hx hb dJ6_numberOfLeadingZeros_0f7a4_48 rfl (lv_at hl 0 rfl) ?_
        refine lv_bipush (v := 16) hx hb dJ6_numberOfLeadingZeros_0f7a4_49 (by decide) ?_
        refine lv_icmp_lt (tgt := 61) hx hb dJ6_numberOfLeadingZeros_0f7a4_51 (by decide) (fun c4971 => ?_) (fun c4971 => ?_)
        · refine lv_iload_n hx hb dJ6_numberOfLeadingZeros_0f7a4_61 rfl (lv_at hl 0 rfl) ?_
          refine lv_iconst (v := 4) hx hb dJ6_numberOfLeadingZeros_0f7a4_62 (by decide) ?_
          refine lv_icmp_lt (tgt := 73) hx hb dJ6_numberOfLeadingZeros_0f7a4_63 (by decide) (fun c4972 => ?_) (fun c4972 => ?_)
          · refine lv_iload_n hx hb dJ6_numberOfLeadingZeros_0f7a4_73 rfl (lv_at hl 1 rfl) ?_
            refine lv_iload_n hx hb dJ6_numberOfLeadingZeros_0f7a4_74 rfl (lv_at hl 0 rfl) ?_
            refine lv_iconst (v := 1) hx hb dJ6_numberOfLeadingZeros_0f7a4_75 (by decide) ?_
            refine lv_iushr (v := (Int32.toUInt32 ((Int32.toUInt32 ((Int32.toUInt32 x0 >>> (Int32.toUInt32 16 &&& Int32.toUInt32 31)).toInt32) >>> (Int32.toUInt32 8 &&& Int32.toUInt32 31)).toInt32) >>> (Int32.toUInt32 1 &&& Int32.toUInt32 31)).toInt32) hx hb dJ6_numberOfLeadingZeros_0f7a4_76 rfl ?_
            refine lv_isub hx hb dJ6_numberOfLeadingZeros_0f7a4_77 ?_
            exact W.iret (v := (7 : Int32) - ((Int32.toUInt32 ((Int32.toUInt32 ((Int32.toUInt32 x0 >>> (Int32.toUInt32 16 &&& Int32.toUInt32 31)).toInt32) >>> (Int32.toUInt32 8 &&& Int32.toUInt32 31)).toInt32) >>> (Int32.toUInt32 1 &&& Int32.toUInt32 31)).toInt32)) hx hb hr (fun t ht hW => ⟨_, rfl, by rw [if_pos c4958, if_neg c4959, if_neg c4967, if_pos c4971, if_pos c4972], ht⟩) (fun q hq => absurd hq List.not_mem_nil) dJ6_numberOfLeadingZeros_0f7a4_78
          · refine lv_iinc (v := 5) (lv' := [(1, .int 5), (0, .int ((Int32.toUInt32 ((Int32.toUInt32 x0 >>> (Int32.toUInt32 16 &&& Int32.toUInt32 31)).toInt32) >>> (Int32.toUInt32 8 &&& Int32.toUInt32 31)).toInt32))]) hx hb dJ6_numberOfLeadingZeros_0f7a4_66 hl (k := 1) rfl (by decide) (by decide) rfl (fun ls hl => ?_)
            refine lv_iload_n hx hb dJ6_numberOfLeadingZeros_0f7a4_69 rfl (lv_at hl 1 rfl) ?_
            refine lv_iconst (v := 2) hx hb dJ6_numberOfLeadingZeros_0f7a4_70 (by decide) ?_
            refine lv_iushr (v := (Int32.toUInt32 ((Int32.toUInt32 ((Int32.toUInt32 x0 >>> (Int32.toUInt32 16 &&& Int32.toUInt32 31)).toInt32) >>> (Int32.toUInt32 8 &&& Int32.toUInt32 31)).toInt32) >>> (Int32.toUInt32 2 &&& Int32.toUInt32 31)).toInt32) hx hb dJ6_numberOfLeadingZeros_0f7a4_71 rfl ?_
            refine lv_istore_n (lv' := [(0, .int ((Int32.toUInt32 ((Int32.toUInt32 ((Int32.toUInt32 x0 >>> (Int32.toUInt32 16 &&& Int32.toUInt32 31)).toInt32) >>> (Int32.toUInt32 8 &&& Int32.toUInt32 31)).toInt32) >>> (Int32.toUInt32 2 &&& Int32.toUInt32 31)).toInt32)), (1, .int 5)]) hx hb dJ6_numberOfLeadingZeros_0f7a4_72 rfl hl (by decide) rfl (fun ls hl => ?_)
            refine lv_iload_n hx hb dJ6_numberOfLeadingZeros_0f7a4_73 rfl (lv_at hl 1 rfl) ?_
            refine lv_iload_n hx hb dJ6_numberOfLeadingZeros_0f7a4_74 rfl (lv_at hl 0 rfl) ?_
            refine lv_iconst (v := 1) hx hb dJ6_numberOfLeadingZeros_0f7a4_75 (by decide) ?_
            refine lv_iushr (v := (Int32.toUInt32 ((Int32.toUInt32 ((Int32.toUInt32 ((Int32.toUInt32 x0 >>> (Int32.toUInt32 16 &&& Int32.toUInt32 31)).toInt32) >>> (Int32.toUInt32 8 &&& Int32.toUInt32 31)).toInt32) >>> (Int32.toUInt32 2 &&& Int32.toUInt32 31)).toInt32) >>> (Int32.toUInt32 1 &&& Int32.toUInt32 31)).toInt32) hx hb dJ6_numberOfLeadingZeros_0f7a4_76 rfl ?_
            refine lv_isub hx hb dJ6_numberOfLeadingZeros_0f7a4_77 ?_
            exact W.iret (v := (5 : Int32) - ((Int32.toUInt32 ((Int32.toUInt32 ((Int32.toUInt32 ((Int32.toUInt32 x0 >>> (Int32.toUInt32 16 &&& Int32.toUInt32 31)).toInt32) >>> (Int32.toUInt32 8 &&& Int32.toUInt32 31)).toInt32) >>> (Int32.toUInt32 2 &&& Int32.toUInt32 31)).toInt32) >>> (Int32.toUInt32 1 &&& Int32.toUInt32 31)).toInt32)) hx hb hr (fun t ht hW => ⟨_, rfl, by rw [if_pos c4958, if_neg c4959, if_neg c4967, if_pos c4971, if_neg c4972], ht⟩) (fun q hq => absurd hq List.not_mem_nil) dJ6_numberOfLeadingZeros_0f7a4_78
        · refine lv_iinc (v := 3) (lv' := [(1, .int 3), (0, .int ((Int32.toUInt32 ((Int32.toUInt32 x0 >>> (Int32.toUInt32 16 &&& Int32.toUInt32 31)).toInt32) >>> (Int32.toUInt32 8 &&& Int32.toUInt32 31)).toInt32))]) hx hb dJ6_numberOfLeadingZeros_0f7a4_54 hl (k := 1) rfl (by decide) (by decide) rfl (fun ls hl => ?_)
          refine lv_iload_n hx hb dJ6_numberOfLeadingZeros_0f7a4_57 rfl (lv_at hl 1 rfl) ?_
          refine lv_iconst (v := 4) hx hb dJ6_numberOfLeadingZeros_0f7a4_58 (by decide) ?_
          refine lv_iushr (v := (Int32.toUInt32 ((Int32.toUInt32 ((Int32.toUInt32 x0 >>> (Int32.toUInt32 16 &&& Int32.toUInt32 31)).toInt32) >>> (Int32.toUInt32 8 &&& Int32.toUInt32 31)).toInt32) >>> (Int32.toUInt32 4 &&& Int32.toUInt32 31)).toInt32) hx hb dJ6_numberOfLeadingZeros_0f7a4_59 rfl ?_
          refine lv_istore_n (lv' := [(0, .int ((Int32.toUInt32 ((Int32.toUInt32 ((Int32.toUInt32 x0 >>> (Int32.toUInt32 16 &&& Int32.toUInt32 31)).toInt32) >>> (Int32.toUInt32 8 &&& Int32.toUInt32 31)).toInt32) >>> (Int32.toUInt32 4 &&& Int32.toUInt32 31)).toInt32)), (1, .int 3)]) hx hb dJ6_numberOfLeadingZeros_0f7a4_60 rfl hl (by decide) rfl (fun ls hl => ?_)
          refine lv_iload_n hx hb dJ6_numberOfLeadingZeros_0f7a4_61 rfl (lv_at hl 0 rfl) ?_
          refine lv_iconst (v := 4) hx hb dJ6_numberOfLeadingZeros_0f7a4_62 (by decide) ?_
          refine lv_icmp_lt (tgt := 73) hx hb dJ6_numberOfLeadingZeros_0f7a4_63 (by decide) (fun c4973 => ?_) (fun c4973 => ?_)
          · refine lv_iload_n hx hb dJ6_numberOfLeadingZeros_0f7a4_73 rfl (lv_at hl 1 rfl) ?_
            refine lv_iload_n hx hb dJ6_numberOfLeadingZeros_0f7a4_74 rfl (lv_at hl 0 rfl) ?_
            refine lv_iconst (v := 1) hx hb dJ6_numberOfLeadingZeros_0f7a4_75 (by decide) ?_
            refine lv_iushr (v := (Int32.toUInt32 ((Int32.toUInt32 ((Int32.toUInt32 ((Int32.toUInt32 x0 >>> (Int32.toUInt32 16 &&& Int32.toUInt32 31)).toInt32) >>> (Int32.toUInt32 8 &&& Int32.toUInt32 31)).toInt32) >>> (Int32.toUInt32 4 &&& Int32.toUInt32 31)).toInt32) >>> (Int32.toUInt32 1 &&& Int32.toUInt32 31)).toInt32) hx hb dJ6_numberOfLeadingZeros_0f7a4_76 rfl ?_
            refine lv_isub hx hb dJ6_numberOfLeadingZeros_0f7a4_77 ?_
            exact W.iret (v := (3 : Int32) - ((Int32.toUInt32 ((Int32.toUInt32 ((Int32.toUInt32 ((Int32.toUInt32 x0 >>> (Int32.toUInt32 16 &&& Int32.toUInt32 31)).toInt32) >>> (Int32.toUInt32 8 &&& Int32.toUInt32 31)).toInt32) >>> (Int32.toUInt32 4 &&& Int32.toUInt32 31)).toInt32) >>> (Int32.toUInt32 1 &&& Int32.toUInt32 31)).toInt32)) hx hb hr (fun t ht hW => ⟨_, rfl, by rw [if_pos c4958, if_neg c4959, if_neg c4967, if_neg c4971, if_pos c4973], ht⟩) (fun q hq => absurd hq List.not_mem_nil) dJ6_numberOfLeadingZeros_0f7a4_78
          · refine lv_iinc (v := 1) (lv' := [(1, .int 1), (0, .int ((Int32.toUInt32 ((Int32.toUInt32 ((Int32.toUInt32 x0 >>> (Int32.toUInt32 16 &&& Int32.toUInt32 31)).toInt32) >>> (Int32.toUInt32 8 &&& Int32.toUInt32 31)).toInt32) >>> (Int32.toUInt32 4 &&& Int32.toUInt32 31)).toInt32))]) hx hb dJ6_numberOfLeadingZeros_0f7a4_66 hl (k := 1) rfl (by decide) (by decide) rfl (fun ls hl => ?_)
            refine lv_iload_n hx hb dJ6_numberOfLeadingZeros_0f7a4_69 rfl (lv_at hl 1 rfl) ?_
            refine lv_iconst (v := 2) hx hb dJ6_numberOfLeadingZeros_0f7a4_70 (by decide) ?_
            refine lv_iushr (v := (Int32.toUInt32 ((Int32.toUInt32 ((Int32.toUInt32 ((Int32.toUInt32 x0 >>> (Int32.toUInt32 16 &&& Int32.toUInt32 31)).toInt32) >>> (Int32.toUInt32 8 &&& Int32.toUInt32 31)).toInt32) >>> (Int32.toUInt32 4 &&& Int32.toUInt32 31)).toInt32) >>> (Int32.toUInt32 2 &&& Int32.toUInt32 31)).toInt32) hx hb dJ6_numberOfLeadingZeros_0f7a4_71 rfl ?_
            refine lv_istore_n (lv' := [(0, .int ((Int32.toUInt32 ((Int32.toUInt32 ((Int32.toUInt32 ((Int32.toUInt32 x0 >>> (Int32.toUInt32 16 &&& Int32.toUInt32 31)).toInt32) >>> (Int32.toUInt32 8 &&& Int32.toUInt32 31)).toInt32) >>> (Int32.toUInt32 4 &&& Int32.toUInt32 31)).toInt32) >>> (Int32.toUInt32 2 &&& Int32.toUInt32 31)).toInt32)), (1, .int 1)]) hx hb dJ6_numberOfLeadingZeros_0f7a4_72 rfl hl (by decide) rfl (fun ls hl => ?_)
            refine lv_iload_n hx hb dJ6_numberOfLeadingZeros_0f7a4_73 rfl (lv_at hl 1 rfl) ?_
            refine lv_iload_n hx hb dJ6_numberOfLeadingZeros_0f7a4_74 rfl (lv_at hl 0 rfl) ?_
            refine lv_iconst (v := 1) hx hb dJ6_numberOfLeadingZeros_0f7a4_75 (by decide) ?_
            refine lv_iushr (v := (Int32.toUInt32 ((Int32.toUInt32 ((Int32.toUInt32 ((Int32.toUInt32 ((Int32.toUInt32 x0 >>> (Int32.toUInt32 16 &&& Int32.toUInt32 31)).toInt32) >>> (Int32.toUInt32 8 &&& Int32.toUInt32 31)).toInt32) >>> (Int32.toUInt32 4 &&& Int32.toUInt32 31)).toInt32) >>> (Int32.toUInt32 2 &&& Int32.toUInt32 31)).toInt32) >>> (Int32.toUInt32 1 &&& Int32.toUInt32 31)).toInt32) hx hb dJ6_numberOfLeadingZeros_0f7a4_76 rfl ?_
            refine lv_isub hx hb dJ6_numberOfLeadingZeros_0f7a4_77 ?_
            exact W.iret (v := (1 : Int32) - ((Int32.toUInt32 ((Int32.toUInt32 ((Int32.toUInt32 ((Int32.toUInt32 ((Int32.toUInt32 x0 >>> (Int32.toUInt32 16 &&& Int32.toUInt32 31)).toInt32) >>> (Int32.toUInt32 8 &&& Int32.toUInt32 31)).toInt32) >>> (Int32.toUInt32 4 &&& Int32.toUInt32 31)).toInt32) >>> (Int32.toUInt32 2 &&& Int32.toUInt32 31)).toInt32) >>> (Int32.toUInt32 1 &&& Int32.toUInt32 31)).toInt32)) hx hb hr (fun t ht hW => ⟨_, rfl, by rw [if_pos c4958, if_neg c4959, if_neg c4967, if_neg c4971, if_neg c4973], ht⟩) (fun q hq => absurd hq List.not_mem_nil) dJ6_numberOfLeadingZeros_0f7a4_78
  · refine lv_iload_n hx hb dJ6_numberOfLeadingZeros_0f7a4_4 rfl (lv_at hl 0 rfl) ?_
    refine lv_if_ne (tgt := 13) hx hb dJ6_numberOfLeadingZeros_0f7a4_5 (by decide) (fun c4974 => ?_) (fun c4974 => ?_)
    · refine lv_iconst (v := 0) hx hb dJ6_numberOfLeadingZeros_0f7a4_13 (by decide) ?_
      exact W.iret (v := 0) hx hb hr (fun t ht hW => ⟨_, rfl, by rw [if_neg c4958, if_neg c4974], ht⟩) (fun q hq => absurd hq List.not_mem_nil) dJ6_numberOfLeadingZeros_0f7a4_14
    · subst c4974
      refine lv_bipush (v := 32) hx hb dJ6_numberOfLeadingZeros_0f7a4_8 (by decide) ?_
      refine lv_goto (tgt := 14) hx hb dJ6_numberOfLeadingZeros_0f7a4_10 (by decide) ?_
      exact W.iret (v := 32) hx hb hr (fun t ht hW => ⟨_, rfl, by rw [if_neg c4958, if_pos rfl], ht⟩) (fun q hq => absurd hq List.not_mem_nil) dJ6_numberOfLeadingZeros_0f7a4_14
set_option maxHeartbeats 4000000 in
set_option maxRecDepth 100000 in
theorem c_recall1 (l : Launch) (D : va_G) (cI cS : ClassId) (h0 h1 : Nat) (g : Nat → Int32) (ag n v : Nat) (hag : ag < 32768) (hn : n < 4096) (hv : v < 2 ^ 31) (ev : g n = nI v) (hh : v / 2 ^ 16 = ag) : Met l yX1_recall wsX1_recall ({ frames := 0, cells := 0, slots := 0, locals := 0 }) (PS D cI cS [(h0, .inr (1, [.ref h1, .int (nI ag)])), (h1, .inl (cI, 4096, .inl g))] [.ref h0, .int (nI n)]) (vp_Si (fun r => r = nI (v % 2 ^ 16))) 0 0 (fun _ => False) := by
  refine Met.ofW (cc := cX1_recall) (maxL := 2) (ret := (some .int)) (by decide) rfl ?_
  intro p e s m args below meth c s₁ B hml hv
  obtain ⟨rfl, hP, hKK⟩ := hv
  have hx := B.exec
  have hb := B.bytes
  have hr := B.returns
  have hts := atoms_spec (ws := wsX1_recall) B.pre
  have hown : s.vm.findClass RX1 = some m.cls := findClass_of_methodNamed B.named
  have hlocks := B.notSynchronized
  have hK := hKK.1
  have hN := hKK.2
  have hin1 : ∀ w ∈ wsX10, w ∈ wsX1_recall := by decide +kernel
  have hl := lv_entry ([.ref h0, .int (nI n)]) (n := 2) (Nat.le_of_ble_eq_true rfl)
  rw [lg_entry_eq]
  generalize (lg_sl ([.ref h0, .int (nI n)]) ++ List.replicate (2 - (lg_sl ([.ref h0, .int (nI n)])).length) Slot.unset).toArray = ls at hl ⊢
  have hl : lv_has ls 2 [(0, .ref h0), (1, .int (nI n))] := hl
  refine lv_iload_n hx hb dX1_recall_0 rfl (lv_at hl 1 rfl) ?_
  refine lv_if_lt (tgt := 29) hx hb dX1_recall_1 (by decide) (fun c4975 => ?_) (fun c4975 => ?_)
  · exact absurd c4975 (nI_pos (by omega))
  · refine lv_iload_n hx hb dX1_recall_4 rfl (lv_at hl 1 rfl) ?_
    refine lv_aload_n hx hb dX1_recall_5 rfl (lv_at hl 0 rfl) ?_
    refine va_get (D := D) (ci := 1) (v := .ref h1) (C := RX1) (T := TX1) (N := 2) hx hb hts hin1 hown hK hP 0 rfl rfl 0 (by decide) (hts (.fieldLink RX1 21 "MissedPoints$Memo" "cells" "[I") (by decide +kernel)) (fun _ h9 => h9) rfl dX1_recall_6 ?_
    refine va_alen hx hb hK hP 1 0 rfl rfl (v := 4096) rfl dX1_recall_9 ?_
    refine lv_icmp_ge (tgt := 29) hx hb dX1_recall_10 (by decide) (fun c4976 => ?_) (fun c4976 => ?_)
    · exact absurd c4976 (show ¬ (4096 : Int32) ≤ nI n from nI_ge (b := 4096) hn (by omega))
    · refine lv_aload_n hx hb dX1_recall_13 rfl (lv_at hl 0 rfl) ?_
      refine va_get (D := D) (ci := 1) (v := .ref h1) (C := RX1) (T := TX1) (N := 2) hx hb hts hin1 hown hK hP 0 rfl rfl 0 (by decide) (hts (.fieldLink RX1 21 "MissedPoints$Memo" "cells" "[I") (by decide +kernel)) (fun _ h9 => h9) rfl dX1_recall_14 ?_
      refine lv_iload_n hx hb dX1_recall_17 rfl (lv_at hl 1 rfl) ?_
      refine lz_ald hx hb hK hP 1 0 rfl rfl n ⟨hn, Nat.le_of_ble_eq_true rfl⟩ dX1_recall_18 ?_
      refine lz_top (y := (nI v)) (ev) ?_
      refine lv_bipush (v := 16) hx hb dX1_recall_19 (by decide) ?_
      refine lv_iushr (v := (Int32.toUInt32 (nI v) >>> (Int32.toUInt32 16 &&& Int32.toUInt32 31)).toInt32) hx hb dX1_recall_21 rfl ?_
      refine lz_top (y := (nI (v / 2 ^ 16))) (pk_ushrN (by omega) 16 16 (by decide)) ?_
      refine lv_aload_n hx hb dX1_recall_22 rfl (lv_at hl 0 rfl) ?_
      refine va_get (D := D) (ci := 1) (v := .int (nI ag)) (C := RX1) (T := TX1) (N := 2) hx hb hts hin1 hown hK hP 0 rfl rfl 1 (by decide) (hts (.fieldLink RX1 9 "MissedPoints$Memo" "age" "I") (by decide +kernel)) (fun _ h9 => h9) rfl dX1_recall_23 ?_
      refine lv_icmp_eq (tgt := 31) hx hb dX1_recall_26 (by decide) (fun c4977 => ?_) (fun c4977 => ?_)
      · refine lv_aload_n hx hb dX1_recall_31 rfl (lv_at hl 0 rfl) ?_
        refine va_get (D := D) (ci := 1) (v := .ref h1) (C := RX1) (T := TX1) (N := 2) hx hb hts hin1 hown hK hP 0 rfl rfl 0 (by decide) (hts (.fieldLink RX1 21 "MissedPoints$Memo" "cells" "[I") (by decide +kernel)) (fun _ h9 => h9) rfl dX1_recall_32 ?_
        refine lv_iload_n hx hb dX1_recall_35 rfl (lv_at hl 1 rfl) ?_
        refine lz_ald hx hb hK hP 1 0 rfl rfl n ⟨hn, Nat.le_of_ble_eq_true rfl⟩ dX1_recall_36 ?_
        refine lz_top (y := (nI v)) (ev) ?_
        refine lv_ldc hx hb hown (hts (.constant RX1 25 (65535)) (by decide +kernel)) dX1_recall_37 ?_
        refine lv_iand hx hb dX1_recall_39 ?_
        refine lz_top (y := (nI (v % 2 ^ 16))) (pk_andN (by omega) 16 (by decide)) ?_
        exact W.iret (v := (nI (v % 2 ^ 16))) hx hb hr (fun t ht hW => ⟨_, rfl, rfl, ht⟩) (fun q hq => absurd hq List.not_mem_nil) dX1_recall_40
      · exact absurd (by rw [hh]) c4977
set_option maxHeartbeats 4000000 in
set_option maxRecDepth 100000 in
theorem c_recall0 (l : Launch) (D : va_G) (cI cS : ClassId) (h0 h1 : Nat) (g : Nat → Int32) (ag n v : Nat) (hag : ag < 32768) (hn : n < 4096) (hv : v < 2 ^ 31) (ev : g n = nI v) (hh : ¬ v / 2 ^ 16 = ag) : Met l yX1_recall wsX1_recall ({ frames := 0, cells := 0, slots := 0, locals := 0 }) (PS D cI cS [(h0, .inr (1, [.ref h1, .int (nI ag)])), (h1, .inl (cI, 4096, .inl g))] [.ref h0, .int (nI n)]) (vp_Si (fun r => r = -1)) 0 0 (fun _ => False) := by
  refine Met.ofW (cc := cX1_recall) (maxL := 2) (ret := (some .int)) (by decide) rfl ?_
  intro p e s m args below meth c s₁ B hml hv
  obtain ⟨rfl, hP, hKK⟩ := hv
  have hx := B.exec
  have hb := B.bytes
  have hr := B.returns
  have hts := atoms_spec (ws := wsX1_recall) B.pre
  have hown : s.vm.findClass RX1 = some m.cls := findClass_of_methodNamed B.named
  have hlocks := B.notSynchronized
  have hK := hKK.1
  have hN := hKK.2
  have hin1 : ∀ w ∈ wsX10, w ∈ wsX1_recall := by decide +kernel
  have hl := lv_entry ([.ref h0, .int (nI n)]) (n := 2) (Nat.le_of_ble_eq_true rfl)
  rw [lg_entry_eq]
  generalize (lg_sl ([.ref h0, .int (nI n)]) ++ List.replicate (2 - (lg_sl ([.ref h0, .int (nI n)])).length) Slot.unset).toArray = ls at hl ⊢
  have hl : lv_has ls 2 [(0, .ref h0), (1, .int (nI n))] := hl
  refine lv_iload_n hx hb dX1_recall_0 rfl (lv_at hl 1 rfl) ?_
  refine lv_if_lt (tgt := 29) hx hb dX1_recall_1 (by decide) (fun c4978 => ?_) (fun c4978 => ?_)
  · exact absurd c4978 (nI_pos (by omega))
  · refine lv_iload_n hx hb dX1_recall_4 rfl (lv_at hl 1 rfl) ?_
    refine lv_aload_n hx hb dX1_recall_5 rfl (lv_at hl 0 rfl) ?_
    refine va_get (D := D) (ci := 1) (v := .ref h1) (C := RX1) (T := TX1) (N := 2) hx hb hts hin1 hown hK hP 0 rfl rfl 0 (by decide) (hts (.fieldLink RX1 21 "MissedPoints$Memo" "cells" "[I") (by decide +kernel)) (fun _ h9 => h9) rfl dX1_recall_6 ?_
    refine va_alen hx hb hK hP 1 0 rfl rfl (v := 4096) rfl dX1_recall_9 ?_
    refine lv_icmp_ge (tgt := 29) hx hb dX1_recall_10 (by decide) (fun c4979 => ?_) (fun c4979 => ?_)
    · exact absurd c4979 (show ¬ (4096 : Int32) ≤ nI n from nI_ge (b := 4096) hn (by omega))
    · refine lv_aload_n hx hb dX1_recall_13 rfl (lv_at hl 0 rfl) ?_
      refine va_get (D := D) (ci := 1) (v := .ref h1) (C := RX1) (T := TX1) (N := 2) hx hb hts hin1 hown hK hP 0 rfl rfl 0 (by decide) (hts (.fieldLink RX1 21 "MissedPoints$Memo" "cells" "[I") (by decide +kernel)) (fun _ h9 => h9) rfl dX1_recall_14 ?_
      refine lv_iload_n hx hb dX1_recall_17 rfl (lv_at hl 1 rfl) ?_
      refine lz_ald hx hb hK hP 1 0 rfl rfl n ⟨hn, Nat.le_of_ble_eq_true rfl⟩ dX1_recall_18 ?_
      refine lz_top (y := (nI v)) (ev) ?_
      refine lv_bipush (v := 16) hx hb dX1_recall_19 (by decide) ?_
      refine lv_iushr (v := (Int32.toUInt32 (nI v) >>> (Int32.toUInt32 16 &&& Int32.toUInt32 31)).toInt32) hx hb dX1_recall_21 rfl ?_
      refine lz_top (y := (nI (v / 2 ^ 16))) (pk_ushrN (by omega) 16 16 (by decide)) ?_
      refine lv_aload_n hx hb dX1_recall_22 rfl (lv_at hl 0 rfl) ?_
      refine va_get (D := D) (ci := 1) (v := .int (nI ag)) (C := RX1) (T := TX1) (N := 2) hx hb hts hin1 hown hK hP 0 rfl rfl 1 (by decide) (hts (.fieldLink RX1 9 "MissedPoints$Memo" "age" "I") (by decide +kernel)) (fun _ h9 => h9) rfl dX1_recall_23 ?_
      refine lv_icmp_eq (tgt := 31) hx hb dX1_recall_26 (by decide) (fun c4980 => ?_) (fun c4980 => ?_)
      · exact absurd c4980 (fun e => hh ((nI_eq (by omega) (by omega)).mp e))
      · refine lv_iconst (v := (-1)) hx hb dX1_recall_29 (by decide) ?_
        exact W.iret (v := (-1)) hx hb hr (fun t ht hW => ⟨_, rfl, rfl, ht⟩) (fun q hq => absurd hq List.not_mem_nil) dX1_recall_30
set_option maxHeartbeats 4000000 in
set_option maxRecDepth 100000 in
theorem c_keep (l : Launch) (D : va_G) (cI cS : ClassId) (sz : Nat) (h0 h1 : Nat) (g : Nat → Int32) (ag n vl : Nat) (hag : ag < 32768) (hn : n < 4096) (hvl : vl < 65536) : Met l yX1_keep wsX1_keep ({ frames := 0, cells := 0, slots := 0, locals := 0 }) (PQ D cI cS [(h0, .inr (1, [.ref h1, .int (nI ag)])), (h1, .inl (cI, 4096, .inl g))] sz [.ref h0, .int (nI n), .int (nI vl)]) (QV D [(h0, .inr (1, [.ref h1, .int (nI ag)])), (h1, .inl (cI, 4096, .inl g))] [(h0, .inr (1, [.ref h1, .int (nI ag)])), (h1, .inl (cI, 4096, .inl (upd g n (nI (2 ^ 16 * ag + vl)))))] sz) 0 0 (va_A [(h0, .inr (1, [.ref h1, .int (nI ag)])), (h1, .inl (cI, 4096, .inl g))] sz) := by
  refine Met.ofW (cc := cX1_keep) (maxL := 3) (ret := none) (by decide) rfl ?_
  intro p e s m args below meth c s₁ B hml hv
  obtain ⟨rfl, hsz, hP, hKK, hD0⟩ := hv
  have hx := B.exec
  have hb := B.bytes
  have hr := B.returns
  have hts := atoms_spec (ws := wsX1_keep) B.pre
  have hown : s.vm.findClass RX1 = some m.cls := findClass_of_methodNamed B.named
  have hlocks := B.notSynchronized
  have hK := hKK.1
  have hN := hKK.2
  have hin1 : ∀ w ∈ wsX10, w ∈ wsX1_keep := by decide +kernel
  subst hsz
  have hD := hD0.self (sz := s.heap.size)
  obtain ⟨A, hAe⟩ : ∃ A, A = va_A [(h0, .inr (1, [.ref h1, .int (nI ag)])), (h1, .inl (cI, 4096, .inl g))] s.heap.size := ⟨_, rfl⟩
  rw [← hAe] at hD
  have hA : ∀ q : Nat, s.heap.size ≤ q → A q := fun q h => by rw [hAe]; exact Or.inr h
  have hS : va_S A s.heap s.heap [] := va_S.rf
  have hl := lv_entry ([.ref h0, .int (nI n), .int (nI vl)]) (n := 3) (Nat.le_of_ble_eq_true rfl)
  rw [lg_entry_eq]
  generalize (lg_sl ([.ref h0, .int (nI n), .int (nI vl)]) ++ List.replicate (3 - (lg_sl ([.ref h0, .int (nI n), .int (nI vl)])).length) Slot.unset).toArray = ls at hl ⊢
  have hl : lv_has ls 3 [(0, .ref h0), (1, .int (nI n)), (2, .int (nI vl))] := hl
  refine lv_iload_n hx hb dX1_keep_0 rfl (lv_at hl 1 rfl) ?_
  refine lv_if_lt (tgt := 31) hx hb dX1_keep_1 (by decide) (fun c4981 => ?_) (fun c4981 => ?_)
  · exact absurd c4981 (nI_pos (by omega))
  · refine lv_iload_n hx hb dX1_keep_4 rfl (lv_at hl 1 rfl) ?_
    refine lv_aload_n hx hb dX1_keep_5 rfl (lv_at hl 0 rfl) ?_
    refine va_get (D := D) (ci := 1) (v := .ref h1) (C := RX1) (T := TX1) (N := 2) hx hb hts hin1 hown hK hP 0 rfl rfl 0 (by decide) (hts (.fieldLink RX1 21 "MissedPoints$Memo" "cells" "[I") (by decide +kernel)) (fun _ h9 => h9) rfl dX1_keep_6 ?_
    refine va_alen hx hb hK hP 1 0 rfl rfl (v := 4096) rfl dX1_keep_9 ?_
    refine lv_icmp_ge (tgt := 31) hx hb dX1_keep_10 (by decide) (fun c4982 => ?_) (fun c4982 => ?_)
    · exact absurd c4982 (show ¬ (4096 : Int32) ≤ nI n from nI_ge (b := 4096) hn (by omega))
    · refine lv_aload_n hx hb dX1_keep_13 rfl (lv_at hl 0 rfl) ?_
      refine va_get (D := D) (ci := 1) (v := .ref h1) (C := RX1) (T := TX1) (N := 2) hx hb hts hin1 hown hK hP 0 rfl rfl 0 (by decide) (hts (.fieldLink RX1 21 "MissedPoints$Memo" "cells" "[I") (by decide +kernel)) (fun _ h9 => h9) rfl dX1_keep_14 ?_
      refine lv_iload_n hx hb dX1_keep_17 rfl (lv_at hl 1 rfl) ?_
      refine lv_aload_n hx hb dX1_keep_18 rfl (lv_at hl 0 rfl) ?_
      refine va_get (D := D) (ci := 1) (v := .int (nI ag)) (C := RX1) (T := TX1) (N := 2) hx hb hts hin1 hown hK hP 0 rfl rfl 1 (by decide) (hts (.fieldLink RX1 9 "MissedPoints$Memo" "age" "I") (by decide +kernel)) (fun _ h9 => h9) rfl dX1_keep_19 ?_
      refine lv_bipush (v := 16) hx hb dX1_keep_22 (by decide) ?_
      refine lv_ishl hx hb dX1_keep_24 ?_
      refine lz_top (y := (nI (2 ^ 16 * ag))) ((show nI ag <<< ((16 : Int32) &&& 31) = nI (2 ^ 16 * ag) from by rw [Nat.mul_comm]; exact pk_shlN _ 16 (by decide) (by omega))) ?_
      refine lv_iload_n hx hb dX1_keep_25 rfl (lv_at hl 2 rfl) ?_
      refine lv_ldc hx hb hown (hts (.constant RX1 25 (65535)) (by decide +kernel)) dX1_keep_26 ?_
      refine lv_iand hx hb dX1_keep_28 ?_
      refine lz_top (y := (nI vl)) ((show nI vl &&& 65535 = nI vl from by rw [pk_andN (by omega) 16 (by decide), Nat.mod_eq_of_lt hvl])) ?_
      refine lv_ior hx hb dX1_keep_29 ?_
      refine lz_top (y := (nI (2 ^ 16 * ag + vl))) (fa_or_sum _ hvl) ?_
      refine lz_ast hx hb hK hP hD hS 1 0 rfl rfl n ⟨hn, Nat.le_of_ble_eq_true rfl⟩ dX1_keep_30 (fun H locs hP hD hS => ?_)
      have hP : va_P D cls [(h0, .inr (1, [.ref h1, .int (nI ag)])), (h1, .inl (cI, 4096, .inl (upd g n (nI (2 ^ 16 * ag + vl)))))] H := hP
      have hD : va_D A [(h0, .inr (1, [.ref h1, .int (nI ag)])), (h1, .inl (cI, 4096, .inl (upd g n (nI (2 ^ 16 * ag + vl)))))] := hD
      have hP9 : va_P D cls [(h0, .inr (1, [.ref h1, .int (nI ag)])), (h1, .inl (cI, 4096, .inl (upd g n (nI (2 ^ 16 * ag + vl)))))] H := hP.sub [0, 1] rfl
      have hD9 : va_D A [(h0, .inr (1, [.ref h1, .int (nI ag)])), (h1, .inl (cI, 4096, .inl (upd g n (nI (2 ^ 16 * ag + vl)))))] := hD.sub [0, 1] (by decide) rfl
      subst hAe
      exact W.vret hx hb hr (fun t ht hW => ⟨⟨(), rfl, trivial, by rw [ht]; exact hP9, hD9⟩, hS.F ht⟩) hS.2.2 dX1_keep_31
set_option maxHeartbeats 4000000 in
set_option maxRecDepth 100000 in
theorem c_forget (l : Launch) (D : va_G) (cI cS : ClassId) (sz : Nat) (h0 h1 : Nat) (ag : Nat) (hag : ag < 32767) : Met l yX1_forget wsX1_forget ({ frames := 0, cells := 0, slots := 0, locals := 0 }) (PQ D cI cS [(h0, .inr (1, [.ref h1, .int (nI ag)]))] sz [.ref h0]) (QV D [(h0, .inr (1, [.ref h1, .int (nI ag)]))] [(h0, .inr (1, [.ref h1, .int (nI (ag + 1))]))] sz) 0 0 (va_A [(h0, .inr (1, [.ref h1, .int (nI ag)]))] sz) := by
  refine Met.ofW (cc := cX1_forget) (maxL := 2) (ret := none) (by decide) rfl ?_
  intro p e s m args below meth c s₁ B hml hv
  obtain ⟨rfl, hsz, hP, hKK, hD0⟩ := hv
  have hx := B.exec
  have hb := B.bytes
  have hr := B.returns
  have hts := atoms_spec (ws := wsX1_forget) B.pre
  have hown : s.vm.findClass RX1 = some m.cls := findClass_of_methodNamed B.named
  have hlocks := B.notSynchronized
  have hK := hKK.1
  have hN := hKK.2
  have hin1 : ∀ w ∈ wsX10, w ∈ wsX1_forget := by decide +kernel
  subst hsz
  have hD := hD0.self (sz := s.heap.size)
  obtain ⟨A, hAe⟩ : ∃ A, A = va_A [(h0, .inr (1, [.ref h1, .int (nI ag)]))] s.heap.size := ⟨_, rfl⟩
  rw [← hAe] at hD
  have hA : ∀ q : Nat, s.heap.size ≤ q → A q := fun q h => by rw [hAe]; exact Or.inr h
  have hS : va_S A s.heap s.heap [] := va_S.rf
  have hl := lv_entry ([.ref h0]) (n := 2) (Nat.le_of_ble_eq_true rfl)
  rw [lg_entry_eq]
  generalize (lg_sl ([.ref h0]) ++ List.replicate (2 - (lg_sl ([.ref h0])).length) Slot.unset).toArray = ls at hl ⊢
  have hl : lv_has ls 2 [(0, .ref h0)] := hl
  refine lv_aload_n hx hb dX1_forget_0 rfl (lv_at hl 0 rfl) ?_
  refine va_get (D := D) (ci := 1) (v := .int (nI ag)) (C := RX1) (T := TX1) (N := 2) hx hb hts hin1 hown hK hP 0 rfl rfl 1 (by decide) (hts (.fieldLink RX1 9 "MissedPoints$Memo" "age" "I") (by decide +kernel)) (fun _ h9 => h9) rfl dX1_forget_1 ?_
  refine lv_sipush (v := 32767) hx hb dX1_forget_4 (by decide) ?_
  refine lv_icmp_ne (tgt := 39) hx hb dX1_forget_7 (by decide) (fun c4983 => ?_) (fun c4983 => ?_)
  · refine lv_aload_n hx hb dX1_forget_39 rfl (lv_at hl 0 rfl) ?_
    refine lv_dup hx hb dX1_forget_40 rfl ?_
    refine va_get (D := D) (ci := 1) (v := .int (nI ag)) (C := RX1) (T := TX1) (N := 2) hx hb hts hin1 hown hK hP 0 rfl rfl 1 (by decide) (hts (.fieldLink RX1 9 "MissedPoints$Memo" "age" "I") (by decide +kernel)) (fun _ h9 => h9) rfl dX1_forget_41 ?_
    refine lv_iconst (v := 1) hx hb dX1_forget_44 (by decide) ?_
    refine lv_iadd hx hb dX1_forget_45 ?_
    refine lz_top (y := (nI (ag + 1))) (nI_1 _) ?_
    refine va_put (D := D) (ci := 1) (v := .int (nI (ag + 1))) (ty := .int) (C := RX1) (T := TX1) (N := 2) hx hb hts hin1 tyX1 tyX1_ok nmX1 hown hK hP hD hS 0 rfl rfl 1 (by decide) (hts (.fieldLink RX1 9 "MissedPoints$Memo" "age" "I") (by decide +kernel)) (fun _ h9 => h9) rfl (by decide +kernel) rfl rfl (Nat.le_of_ble_eq_true rfl) dX1_forget_46 (fun H locs hP hD hS => ?_)
    have hP : va_P D cls [(h0, .inr (1, [.ref h1, .int (nI (ag + 1))]))] H := hP
    have hD : va_D A [(h0, .inr (1, [.ref h1, .int (nI (ag + 1))]))] := hD
    have hP9 : va_P D cls [(h0, .inr (1, [.ref h1, .int (nI (ag + 1))]))] H := hP.sub [0] rfl
    have hD9 : va_D A [(h0, .inr (1, [.ref h1, .int (nI (ag + 1))]))] := hD.sub [0] (by decide) rfl
    subst hAe
    exact W.vret hx hb hr (fun t ht hW => ⟨⟨(), rfl, trivial, by rw [ht]; exact hP9, hD9⟩, hS.F ht⟩) hS.2.2 dX1_forget_49
  · exact absurd c4983 (show ¬ nI ag = (32767 : Int32) from fun e => by have z := (nI_eq (b := 32767) (by omega) (by omega)).mp e; omega)
set_option maxHeartbeats 8000000 in
set_option maxRecDepth 100000 in
theorem c_bestOf (l : Launch) (D : va_G) (cI cS : ClassId) (h0 h1 h2 h3 h4 h5 : Nat) (f : Nat → Int32) (cs ch : Int32) (k ag : Nat) (hk : k ≤ 12) (hag : ag < 32767) (hv4 : Lo k f) (hsy : Sym k f) : ∀ (j sz : Nat) (g : Nat → Int32) (n dp : Nat), j ≤ k → n < 2 ^ j → dp + j ≤ 12 → MV ag k f g → Met l yX3_bestOf wsX3_bestOf ({ frames := j + 1, cells := 0, slots := 0, locals := 40 * (j + 1) }) (PQ D cI cS [(h0, .inr (3, [.ref h1, .ref h2, .ref h3, .int cs])), (h1, .inr (2, [.ref h4, .int (nI k), .int ch])), (h4, .inl (cI, 12, .inl f)), (h2, .inr (1, [.ref h5, .int (nI ag)])), (h5, .inl (cI, 4096, .inl g))] sz [.ref h0, .int (nI n), .int (nI dp)]) (QF (S := Nat → Int32) D [(h0, .inr (3, [.ref h1, .ref h2, .ref h3, .int cs])), (h1, .inr (2, [.ref h4, .int (nI k), .int ch])), (h4, .inl (cI, 12, .inl f)), (h2, .inr (1, [.ref h5, .int (nI ag)])), (h5, .inl (cI, 4096, .inl g))] (fun u => [(h0, .inr (3, [.ref h1, .ref h2, .ref h3, .int cs])), (h1, .inr (2, [.ref h4, .int (nI k), .int ch])), (h4, .inl (cI, 12, .inl f)), (h2, .inr (1, [.ref h5, .int (nI ag)])), (h5, .inl (cI, 4096, .inl u))]) sz (fun r u => r = nI (nuS k f n) ∧ MV ag k f u)) 0 0 (va_A [(h0, .inr (3, [.ref h1, .ref h2, .ref h3, .int cs])), (h1, .inr (2, [.ref h4, .int (nI k), .int ch])), (h4, .inl (cI, 12, .inl f)), (h2, .inr (1, [.ref h5, .int (nI ag)])), (h5, .inl (cI, 4096, .inl g))] sz) := by
  intro j
  induction j with
  | zero =>
    intro sz g n dp hj hn hdp hmv
    refine Met.ofW (cc := cX3_bestOf) (maxL := 11) (ret := (some .int)) (by decide) rfl ?_
    intro p e s m args below meth c s₁ B hml hv
    obtain ⟨rfl, hsz, hP, hKK, hD0⟩ := hv
    have hx := B.exec
    have hb := B.bytes
    have hr := B.returns
    have hts := atoms_spec (ws := wsX3_bestOf) B.pre
    have hown : s.vm.findClass RX3 = some m.cls := findClass_of_methodNamed B.named
    have hlocks := B.notSynchronized
    have hK := hKK.1
    have hN := hKK.2
    have hin1 : ∀ w ∈ wsX10, w ∈ wsX3_bestOf := by decide +kernel
    have hin2 : ∀ w ∈ wsX20, w ∈ wsX3_bestOf := by decide +kernel
    have hin3 : ∀ w ∈ wsX30, w ∈ wsX3_bestOf := by decide +kernel
    subst hsz
    have hD := hD0.self (sz := s.heap.size)
    obtain ⟨A, hAe⟩ : ∃ A, A = va_A [(h0, .inr (3, [.ref h1, .ref h2, .ref h3, .int cs])), (h1, .inr (2, [.ref h4, .int (nI k), .int ch])), (h4, .inl (cI, 12, .inl f)), (h2, .inr (1, [.ref h5, .int (nI ag)])), (h5, .inl (cI, 4096, .inl g))] s.heap.size := ⟨_, rfl⟩
    rw [← hAe] at hD
    have hA : ∀ q : Nat, s.heap.size ≤ q → A q := fun q h => by rw [hAe]; exact Or.inr h
    have hS : va_S A s.heap s.heap [] := va_S.rf
    have hl := lv_entry ([.ref h0, .int (nI n), .int (nI dp)]) (n := 11) (Nat.le_of_ble_eq_true rfl)
    rw [lg_entry_eq]
    generalize (lg_sl ([.ref h0, .int (nI n), .int (nI dp)]) ++ List.replicate (11 - (lg_sl ([.ref h0, .int (nI n), .int (nI dp)])).length) Slot.unset).toArray = ls at hl ⊢
    have hl : lv_has ls 11 [(0, .ref h0), (1, .int (nI n)), (2, .int (nI dp))] := hl
    refine lv_bipush (v := 31) hx hb dX3_bestOf_0 (by decide) ?_
    refine lv_iload_n hx hb dX3_bestOf_2 rfl (lv_at hl 1 rfl) ?_
    have hPc := hP.sub (ws' := []) [] rfl
    refine lz_ss (As := [.int (nI n)]) (rest := [.int 31]) ⟨hx, hb, hml, hown, hts⟩ (c_J6_numberOfLeadingZeros_0f7a4_1 l D cI cS (nI n)) hKK hPc (va_cwS 1 hts gX3_bestOf_J6_numberOfLeadingZeros_0f7a4 rfl rfl rfl (by decide +kernel) ⟨by show 0 + 1 ≤ 0 + 1; omega, by show 8 + (2 + 11) + 0 ≤ 40 * (0 + 1); omega⟩) rfl hl.1 rfl (Nat.le_of_ble_eq_true rfl) dX3_bestOf_3 ⟨Nat.le_of_ble_eq_true rfl, Nat.le_of_ble_eq_true rfl⟩ (fun r9 hw => ?_)
    subst hw
    refine lv_isub hx hb dX3_bestOf_6 ?_
    refine lz_top (y := ((31 : Int32) - nlzT (nI n))) (rfl) ?_
    refine lv_istore_n (lv' := [(3, .int ((31 : Int32) - nlzT (nI n))), (0, .ref h0), (1, .int (nI n)), (2, .int (nI dp))]) hx hb dX3_bestOf_7 rfl hl (by decide) rfl (fun ls hl => ?_)
    refine lv_iload_n hx hb dX3_bestOf_8 rfl (lv_at hl 0 rfl) ?_
    refine lv_iconst (v := 1) hx hb dX3_bestOf_9 (by decide) ?_
    refine lv_icmp_lt (tgt := 25) hx hb dX3_bestOf_10 (by decide) (fun c4984 => ?_) (fun c4984 => ?_)
    · refine lv_iconst (v := 0) hx hb dX3_bestOf_25 (by decide) ?_
      have hP9 := hP.sub (ws' := [(h0, .inr (3, [.ref h1, .ref h2, .ref h3, .int cs])), (h1, .inr (2, [.ref h4, .int (nI k), .int ch])), (h4, .inl (cI, 12, .inl f)), (h2, .inr (1, [.ref h5, .int (nI ag)])), (h5, .inl (cI, 4096, .inl g))]) [0, 1, 2, 3, 4] rfl
      have hD9 := hD.sub (ws' := [(h0, .inr (3, [.ref h1, .ref h2, .ref h3, .int cs])), (h1, .inr (2, [.ref h4, .int (nI k), .int ch])), (h4, .inl (cI, 12, .inl f)), (h2, .inr (1, [.ref h5, .int (nI ag)])), (h5, .inl (cI, 4096, .inl g))]) [0, 1, 2, 3, 4] (by decide) rfl
      subst hAe
      exact W.iret (v := 0) hx hb hr (fun t ht hW => ⟨⟨_, g, rfl, ⟨by rw [nuS_small f (by omega)]; rfl, hmv⟩, by rw [ht]; exact hP9, hD9⟩, hS.F ht⟩) hS.2.2 dX3_bestOf_26
    · exact absurd (by have e9 : n = 0 := (by omega); rw [e9]; exact nlz_lo.1) c4984
  | succ j ih =>
    intro sz g n dp hj hn hdp hmv
    refine Met.ofW (cc := cX3_bestOf) (maxL := 11) (ret := (some .int)) (by decide) rfl ?_
    intro p e s m args below meth c s₁ B hml hv
    obtain ⟨rfl, hsz, hP, hKK, hD0⟩ := hv
    have hx := B.exec
    have hb := B.bytes
    have hr := B.returns
    have hts := atoms_spec (ws := wsX3_bestOf) B.pre
    have hown : s.vm.findClass RX3 = some m.cls := findClass_of_methodNamed B.named
    have hlocks := B.notSynchronized
    have hK := hKK.1
    have hN := hKK.2
    have hin1 : ∀ w ∈ wsX10, w ∈ wsX3_bestOf := by decide +kernel
    have hin2 : ∀ w ∈ wsX20, w ∈ wsX3_bestOf := by decide +kernel
    have hin3 : ∀ w ∈ wsX30, w ∈ wsX3_bestOf := by decide +kernel
    subst hsz
    have hD := hD0.self (sz := s.heap.size)
    obtain ⟨A, hAe⟩ : ∃ A, A = va_A [(h0, .inr (3, [.ref h1, .ref h2, .ref h3, .int cs])), (h1, .inr (2, [.ref h4, .int (nI k), .int ch])), (h4, .inl (cI, 12, .inl f)), (h2, .inr (1, [.ref h5, .int (nI ag)])), (h5, .inl (cI, 4096, .inl g))] s.heap.size := ⟨_, rfl⟩
    rw [← hAe] at hD
    have hA : ∀ q : Nat, s.heap.size ≤ q → A q := fun q h => by rw [hAe]; exact Or.inr h
    have hS : va_S A s.heap s.heap [] := va_S.rf
    have hl := lv_entry ([.ref h0, .int (nI n), .int (nI dp)]) (n := 11) (Nat.le_of_ble_eq_true rfl)
    rw [lg_entry_eq]
    generalize (lg_sl ([.ref h0, .int (nI n), .int (nI dp)]) ++ List.replicate (11 - (lg_sl ([.ref h0, .int (nI n), .int (nI dp)])).length) Slot.unset).toArray = ls at hl ⊢
    have hl : lv_has ls 11 [(0, .ref h0), (1, .int (nI n)), (2, .int (nI dp))] := hl
    have hn4 : n < 4096 := Nat.lt_of_lt_of_le hn (Nat.pow_le_pow_right (show 2 > 0 by decide) (show j + 1 ≤ 12 by omega) : 2 ^ (j + 1) ≤ 2 ^ 12)
    by_cases h2n : n < 2
    · have hlast : (31 : Int32) - nlzT (nI n) < 1 := by
        rcases (show n = 0 ∨ n = 1 by omega) with e9 | e9
        · rw [e9]; exact nlz_lo.1
        · rw [e9]; exact nlz_lo.2
      refine lv_bipush (v := 31) hx hb dX3_bestOf_0 (by decide) ?_
      refine lv_iload_n hx hb dX3_bestOf_2 rfl (lv_at hl 1 rfl) ?_
      have hPc := hP.sub (ws' := []) [] rfl
      refine lz_ss (As := [.int (nI n)]) (rest := [.int 31]) ⟨hx, hb, hml, hown, hts⟩ (c_J6_numberOfLeadingZeros_0f7a4_1 l D cI cS (nI n)) hKK hPc (va_cwS 1 hts gX3_bestOf_J6_numberOfLeadingZeros_0f7a4 rfl rfl rfl (by decide +kernel) ⟨by show 0 + 1 ≤ j + 1 + 1; omega, by show 8 + (2 + 11) + 0 ≤ 40 * (j + 1 + 1); omega⟩) rfl hl.1 rfl (Nat.le_of_ble_eq_true rfl) dX3_bestOf_3 ⟨Nat.le_of_ble_eq_true rfl, Nat.le_of_ble_eq_true rfl⟩ (fun r9 hw => ?_)
      subst hw
      refine lv_isub hx hb dX3_bestOf_6 ?_
      refine lz_top (y := ((31 : Int32) - nlzT (nI n))) (rfl) ?_
      refine lv_istore_n (lv' := [(3, .int ((31 : Int32) - nlzT (nI n))), (0, .ref h0), (1, .int (nI n)), (2, .int (nI dp))]) hx hb dX3_bestOf_7 rfl hl (by decide) rfl (fun ls hl => ?_)
      refine lv_iload_n hx hb dX3_bestOf_8 rfl (lv_at hl 0 rfl) ?_
      refine lv_iconst (v := 1) hx hb dX3_bestOf_9 (by decide) ?_
      refine lv_icmp_lt (tgt := 25) hx hb dX3_bestOf_10 (by decide) (fun c4985 => ?_) (fun c4985 => ?_)
      · refine lv_iconst (v := 0) hx hb dX3_bestOf_25 (by decide) ?_
        have hP9 := hP.sub (ws' := [(h0, .inr (3, [.ref h1, .ref h2, .ref h3, .int cs])), (h1, .inr (2, [.ref h4, .int (nI k), .int ch])), (h4, .inl (cI, 12, .inl f)), (h2, .inr (1, [.ref h5, .int (nI ag)])), (h5, .inl (cI, 4096, .inl g))]) [0, 1, 2, 3, 4] rfl
        have hD9 := hD.sub (ws' := [(h0, .inr (3, [.ref h1, .ref h2, .ref h3, .int cs])), (h1, .inr (2, [.ref h4, .int (nI k), .int ch])), (h4, .inl (cI, 12, .inl f)), (h2, .inr (1, [.ref h5, .int (nI ag)])), (h5, .inl (cI, 4096, .inl g))]) [0, 1, 2, 3, 4] (by decide) rfl
        subst hAe
        exact W.iret (v := 0) hx hb hr (fun t ht hW => ⟨⟨_, g, rfl, ⟨by rw [nuS_small f (by omega)]; rfl, hmv⟩, by rw [ht]; exact hP9, hD9⟩, hS.F ht⟩) hS.2.2 dX3_bestOf_26
      · exact absurd hlast c4985
    · obtain ⟨l1, l0, l2, l3⟩ := hi_of hn4 (by omega)
      have hnk : n < 2 ^ k := Nat.lt_of_lt_of_le hn (Nat.pow_le_pow_right (show 2 > 0 by decide) hj)
      obtain ⟨⟨t1, t1b⟩, t2, t3, t4⟩ := top_rec hk hsy hnk (by omega)
      have hnl := nlz_of hn4 (by omega)
      have hlj : Nat.log2 n ≤ j := by
        rcases Nat.lt_or_ge j (Nat.log2 n) with z | z
        · have := Nat.testBit_lt_two_pow (Nat.lt_of_lt_of_le hn (Nat.pow_le_pow_right (show 2 > 0 by decide) z : 2 ^ (j + 1) ≤ 2 ^ Nat.log2 n))
          rw [this] at l2
          cases l2
        · exact z
      obtain ⟨wd, hwd, ewd⟩ := hv4 (Nat.log2 n) (by omega)
      obtain ⟨v, hv, ev, hva, hvm⟩ := hmv n hn4
      generalize hll : Nat.log2 n = ll at *
      generalize hrs : rmN n ll = rs at *
      generalize hfw : nuS k f rs = fw at *
      have hrs4 : rs < 2 ^ j := by
        rw [← hrs]
        apply Nat.lt_pow_two_of_testBit
        intro i hi
        by_cases h12 : i < 12
        · rw [rmN_bit h12]
          by_cases e : i = ll
          · simp [e]
          · have : n.testBit i = false := Nat.testBit_lt_two_pow (Nat.lt_of_lt_of_le l3 (Nat.pow_le_pow_right (show 2 > 0 by decide) (show ll + 1 ≤ i by omega)))
            simp [this]
        · exact Nat.testBit_lt_two_pow (Nat.lt_of_lt_of_le (rmN_lt hn4) (Nat.pow_le_pow_right (show 2 > 0 by decide) (show 12 ≤ i by omega) : 2 ^ 12 ≤ 2 ^ i))
      have hrs12 : rs < 4096 := by rw [← hrs]; exact rmN_lt hn4
      have hfw6 : fw ≤ 6 := by rw [← hfw]; exact nuS_le hk f rs
      have hb6 : nuS k f n ≤ 6 := nuS_le hk f n
      have hbt : ∀ q, q < ll → (wd &&& rs).testBit q = (n.testBit q && bitI (f ll) q) := fun q hq => by
        rw [Nat.testBit_and, ← hrs, rmN_bit (by omega), ewd, bitI_nI (by omega), Bool.and_comm]
        simp [show q ≠ ll by omega]
      have fin : ∀ (ln : Nat) (g1 : Nat → Int32), ln = nuS k f n → MV ag k f g1 → ∀ (ls : Array Slot) (H : Heap) (locs : List Loc), va_P D cls [(h0, .inr (3, [.ref h1, .ref h2, .ref h3, .int cs])), (h1, .inr (2, [.ref h4, .int (nI k), .int ch])), (h4, .inl (cI, 12, .inl f)), (h2, .inr (1, [.ref h5, .int (nI ag)])), (h5, .inl (cI, 4096, .inl g1))] H → va_D A [(h0, .inr (3, [.ref h1, .ref h2, .ref h3, .int cs])), (h1, .inr (2, [.ref h4, .int (nI k), .int ch])), (h4, .inl (cI, 12, .inl f)), (h2, .inr (1, [.ref h5, .int (nI ag)])), (h5, .inl (cI, 4096, .inl g1))] → va_S A s.heap H locs → lv_has ls 11 [(8, .int (nI ln)), (1, .int (nI n)), (0, .ref h0)] → W p l e (headSpec wsX3_bestOf ({ frames := j + 1 + 1, cells := 0, slots := 0, locals := 40 * (j + 1 + 1) })).room s m ([.ref h0, .int (nI n), .int (nI dp)]).toArray below meth c H locs 0 0 (MQ below (QF (S := Nat → Int32) D [(h0, .inr (3, [.ref h1, .ref h2, .ref h3, .int cs])), (h1, .inr (2, [.ref h4, .int (nI k), .int ch])), (h4, .inl (cI, 12, .inl f)), (h2, .inr (1, [.ref h5, .int (nI ag)])), (h5, .inl (cI, 4096, .inl g))] (fun u => [(h0, .inr (3, [.ref h1, .ref h2, .ref h3, .int cs])), (h1, .inr (2, [.ref h4, .int (nI k), .int ch])), (h4, .inl (cI, 12, .inl f)), (h2, .inr (1, [.ref h5, .int (nI ag)])), (h5, .inl (cI, 4096, .inl u))]) s.heap.size (fun r u => r = nI (nuS k f n) ∧ MV ag k f u)) ([.ref h0, .int (nI n), .int (nI dp)]).toArray s 0 0 (va_A [(h0, .inr (3, [.ref h1, .ref h2, .ref h3, .int cs])), (h1, .inr (2, [.ref h4, .int (nI k), .int ch])), (h4, .inl (cI, 12, .inl f)), (h2, .inr (1, [.ref h5, .int (nI ag)])), (h5, .inl (cI, 4096, .inl g))] s.heap.size)) (F0 m 164 ls []) := by
        intro ln g1 hln hm1 ls H locs hP hD hS hl
        subst hln
        refine lv_aload_n hx hb dX3_bestOf_164 rfl (lv_at hl 2 rfl) ?_
        refine va_get (D := D) (ci := 3) (v := .ref h2) (C := RX3) (T := TX3) (N := 4) hx hb hts hin3 hown hK hP 0 rfl rfl 1 (by decide) (hts (.fieldLink RX3 14 "MissedPoints$Pairs" "mosts" "LMissedPoints$Memo;") (by decide +kernel)) (fun _ h9 => h9) rfl dX3_bestOf_165 ?_
        refine lv_iload_n hx hb dX3_bestOf_168 rfl (lv_at hl 1 rfl) ?_
        refine lv_iload hx hb dX3_bestOf_169 (lv_at hl 0 rfl) ?_
        have hPc := hP.sub (ws' := [(h2, .inr (1, [.ref h5, .int (nI ag)])), (h5, .inl (cI, 4096, .inl g1))]) [3, 4] rfl
        have hDc := hD.sub (ws' := [(h2, .inr (1, [.ref h5, .int (nI ag)])), (h5, .inl (cI, 4096, .inl g1))]) [3, 4] (by decide) rfl
        refine lz_qv (wr := [(h0, .inr (3, [.ref h1, .ref h2, .ref h3, .int cs])), (h1, .inr (2, [.ref h4, .int (nI k), .int ch])), (h4, .inl (cI, 12, .inl f))]) (w1 := [(h2, .inr (1, [.ref h5, .int (nI ag)])), (h5, .inl (cI, 4096, .inl (upd g1 n (nI (2 ^ 16 * ag + nuS k f n)))))]) (As := [.int (nI n), .int (nI (nuS k f n))]) (rest := []) ⟨hx, hb, hml, hown, hts⟩ (c_keep l D cI cS _ h2 h5 g1 ag n (nuS k f n) (by omega) hn4 (by omega)) hKK hP hD hS hA [3, 4] [0, 1, 2] (by decide) rfl rfl (by decide) (by decide) hPc hDc (ci := 1) rfl rfl (cwV 2 hts gX3_bestOf_X1_keep rfl rfl rfl (by decide +kernel) ⟨by show 0 + 1 ≤ j + 1 + 1; omega, by show 8 + (3 + 11) + 0 ≤ 40 * (j + 1 + 1); omega⟩) rfl hl.1 rfl (Nat.le_of_ble_eq_true rfl) dX3_bestOf_171 ⟨Nat.le_of_ble_eq_true rfl, Nat.le_of_ble_eq_true rfl⟩ (fun H locs hP hD hS => ?_)
        have hP : va_P D cls [(h0, .inr (3, [.ref h1, .ref h2, .ref h3, .int cs])), (h1, .inr (2, [.ref h4, .int (nI k), .int ch])), (h4, .inl (cI, 12, .inl f)), (h2, .inr (1, [.ref h5, .int (nI ag)])), (h5, .inl (cI, 4096, .inl (upd g1 n (nI (2 ^ 16 * ag + nuS k f n)))))] H := hP
        have hD : va_D A [(h0, .inr (3, [.ref h1, .ref h2, .ref h3, .int cs])), (h1, .inr (2, [.ref h4, .int (nI k), .int ch])), (h4, .inl (cI, 12, .inl f)), (h2, .inr (1, [.ref h5, .int (nI ag)])), (h5, .inl (cI, 4096, .inl (upd g1 n (nI (2 ^ 16 * ag + nuS k f n)))))] := hD
        refine lv_iload hx hb dX3_bestOf_174 (lv_at hl 0 rfl) ?_
        have hP9 : va_P D cls [(h0, .inr (3, [.ref h1, .ref h2, .ref h3, .int cs])), (h1, .inr (2, [.ref h4, .int (nI k), .int ch])), (h4, .inl (cI, 12, .inl f)), (h2, .inr (1, [.ref h5, .int (nI ag)])), (h5, .inl (cI, 4096, .inl (upd g1 n (nI (2 ^ 16 * ag + nuS k f n)))))] H := hP.sub [0, 1, 2, 3, 4] rfl
        have hD9 : va_D A [(h0, .inr (3, [.ref h1, .ref h2, .ref h3, .int cs])), (h1, .inr (2, [.ref h4, .int (nI k), .int ch])), (h4, .inl (cI, 12, .inl f)), (h2, .inr (1, [.ref h5, .int (nI ag)])), (h5, .inl (cI, 4096, .inl (upd g1 n (nI (2 ^ 16 * ag + nuS k f n)))))] := hD.sub [0, 1, 2, 3, 4] (by decide) rfl
        subst hAe
        exact W.iret (v := nI (nuS k f n)) hx hb hr (fun t ht hW => ⟨⟨_, _, rfl, ⟨rfl, hm1.keep hk hag⟩, by rw [ht]; exact hP9, hD9⟩, hS.F ht⟩) hS.2.2 dX3_bestOf_176
      have done : ∀ (q : Nat) (g1 : Nat → Int32), q ≤ ll → fw + 1 = nuS k f n → MV ag k f g1 → ∀ (ls : Array Slot) (H : Heap) (locs : List Loc), va_P D cls [(h0, .inr (3, [.ref h1, .ref h2, .ref h3, .int cs])), (h1, .inr (2, [.ref h4, .int (nI k), .int ch])), (h4, .inl (cI, 12, .inl f)), (h2, .inr (1, [.ref h5, .int (nI ag)])), (h5, .inl (cI, 4096, .inl g1))] H → va_D A [(h0, .inr (3, [.ref h1, .ref h2, .ref h3, .int cs])), (h1, .inr (2, [.ref h4, .int (nI k), .int ch])), (h4, .inl (cI, 12, .inl f)), (h2, .inr (1, [.ref h5, .int (nI ag)])), (h5, .inl (cI, 4096, .inl g1))] → va_S A s.heap H locs → lv_has ls 11 [(10, .int (nI q)), (9, .int 1), (8, .int (nI (fw + 1))), (7, .int (nI fw)), (6, .int (nI (wd &&& rs))), (5, .int (nI rs)), (4, .int (-1)), (3, .int (nI ll)), (2, .int (nI dp)), (1, .int (nI n)), (0, .ref h0)] → W p l e (headSpec wsX3_bestOf ({ frames := j + 1 + 1, cells := 0, slots := 0, locals := 40 * (j + 1 + 1) })).room s m ([.ref h0, .int (nI n), .int (nI dp)]).toArray below meth c H locs 0 0 (MQ below (QF (S := Nat → Int32) D [(h0, .inr (3, [.ref h1, .ref h2, .ref h3, .int cs])), (h1, .inr (2, [.ref h4, .int (nI k), .int ch])), (h4, .inl (cI, 12, .inl f)), (h2, .inr (1, [.ref h5, .int (nI ag)])), (h5, .inl (cI, 4096, .inl g))] (fun u => [(h0, .inr (3, [.ref h1, .ref h2, .ref h3, .int cs])), (h1, .inr (2, [.ref h4, .int (nI k), .int ch])), (h4, .inl (cI, 12, .inl f)), (h2, .inr (1, [.ref h5, .int (nI ag)])), (h5, .inl (cI, 4096, .inl u))]) s.heap.size (fun r u => r = nI (nuS k f n) ∧ MV ag k f u)) ([.ref h0, .int (nI n), .int (nI dp)]).toArray s 0 0 (va_A [(h0, .inr (3, [.ref h1, .ref h2, .ref h3, .int cs])), (h1, .inr (2, [.ref h4, .int (nI k), .int ch])), (h4, .inl (cI, 12, .inl f)), (h2, .inr (1, [.ref h5, .int (nI ag)])), (h5, .inl (cI, 4096, .inl g))] s.heap.size)) (F0 m 106 ls []) := by
        intro q g1 hq hln hm1 ls H locs hP hD hS hl
        by_cases hql : q = ll
        · refine lv_iload hx hb dX3_bestOf_106 (lv_at hl 0 rfl) ?_
          refine lv_iload_n hx hb dX3_bestOf_108 rfl (lv_at hl 7 rfl) ?_
          refine lv_icmp_ge (tgt := 164) hx hb dX3_bestOf_109 (by decide) (fun c4986 => ?_) (fun c4986 => ?_)
          · exact fin (fw + 1) g1 hln hm1 ls H locs (hP.sub [0, 1, 2, 3, 4] rfl) (hD.sub [0, 1, 2, 3, 4] (by decide) rfl) hS (lv_sub hl [2, 9, 10] rfl)
          · exact absurd (nI_le (show ll ≤ q by omega) (by omega)) c4986
        · refine lv_iload hx hb dX3_bestOf_106 (lv_at hl 0 rfl) ?_
          refine lv_iload_n hx hb dX3_bestOf_108 rfl (lv_at hl 7 rfl) ?_
          refine lv_icmp_ge (tgt := 164) hx hb dX3_bestOf_109 (by decide) (fun c4987 => ?_) (fun c4987 => ?_)
          · exact absurd c4987 (nI_ge (show q < ll by omega) (by omega))
          · refine lv_iload hx hb dX3_bestOf_112 (lv_at hl 1 rfl) ?_
            refine lv_if_eq (tgt := 164) hx hb dX3_bestOf_114 (by decide) (fun c4988 => ?_) (fun c4988 => ?_)
            · exact absurd c4988 (by decide)
            · refine lv_iload hx hb dX3_bestOf_117 (lv_at hl 2 rfl) ?_
              refine lv_iload hx hb dX3_bestOf_119 (lv_at hl 3 rfl) ?_
              refine lv_icmp_ne (tgt := 164) hx hb dX3_bestOf_121 (by decide) (fun c4989 => ?_) (fun c4989 => ?_)
              · exact fin (fw + 1) g1 hln hm1 ls H locs (hP.sub [0, 1, 2, 3, 4] rfl) (hD.sub [0, 1, 2, 3, 4] (by decide) rfl) hS (lv_sub hl [2, 9, 10] rfl)
              · exact absurd c4989 (fun e => by have z := (nI_eq (by omega) (by omega)).mp e; omega)
      have lp : ∀ (r q : Nat) (g1 : Nat → Int32), q + r = ll → (∀ q2, q2 < q → n.testBit q2 = true → bitI (f ll) q2 = true → nuS k f (rmN rs q2) ≠ fw) → MV ag k f g1 → ∀ (ls : Array Slot) (H : Heap) (locs : List Loc), va_P D cls [(h0, .inr (3, [.ref h1, .ref h2, .ref h3, .int cs])), (h1, .inr (2, [.ref h4, .int (nI k), .int ch])), (h4, .inl (cI, 12, .inl f)), (h2, .inr (1, [.ref h5, .int (nI ag)])), (h5, .inl (cI, 4096, .inl g1))] H → va_D A [(h0, .inr (3, [.ref h1, .ref h2, .ref h3, .int cs])), (h1, .inr (2, [.ref h4, .int (nI k), .int ch])), (h4, .inl (cI, 12, .inl f)), (h2, .inr (1, [.ref h5, .int (nI ag)])), (h5, .inl (cI, 4096, .inl g1))] → va_S A s.heap H locs → lv_has ls 11 [(10, .int (nI q)), (9, .int 1), (8, .int (nI fw)), (7, .int (nI fw)), (6, .int (nI (wd &&& rs))), (5, .int (nI rs)), (4, .int (-1)), (3, .int (nI ll)), (2, .int (nI dp)), (1, .int (nI n)), (0, .ref h0)] → W p l e (headSpec wsX3_bestOf ({ frames := j + 1 + 1, cells := 0, slots := 0, locals := 40 * (j + 1 + 1) })).room s m ([.ref h0, .int (nI n), .int (nI dp)]).toArray below meth c H locs 0 0 (MQ below (QF (S := Nat → Int32) D [(h0, .inr (3, [.ref h1, .ref h2, .ref h3, .int cs])), (h1, .inr (2, [.ref h4, .int (nI k), .int ch])), (h4, .inl (cI, 12, .inl f)), (h2, .inr (1, [.ref h5, .int (nI ag)])), (h5, .inl (cI, 4096, .inl g))] (fun u => [(h0, .inr (3, [.ref h1, .ref h2, .ref h3, .int cs])), (h1, .inr (2, [.ref h4, .int (nI k), .int ch])), (h4, .inl (cI, 12, .inl f)), (h2, .inr (1, [.ref h5, .int (nI ag)])), (h5, .inl (cI, 4096, .inl u))]) s.heap.size (fun r u => r = nI (nuS k f n) ∧ MV ag k f u)) ([.ref h0, .int (nI n), .int (nI dp)]).toArray s 0 0 (va_A [(h0, .inr (3, [.ref h1, .ref h2, .ref h3, .int cs])), (h1, .inr (2, [.ref h4, .int (nI k), .int ch])), (h4, .inl (cI, 12, .inl f)), (h2, .inr (1, [.ref h5, .int (nI ag)])), (h5, .inl (cI, 4096, .inl g))] s.heap.size)) (F0 m 106 ls []) := by
        intro r
        induction r with
        | zero =>
          intro q g1 hq hno hm1 ls H locs hP hD hS hl
          have hln : fw = nuS k f n := (t3 (fun q2 h2 => hno q2 (by omega))).symm
          refine lv_iload hx hb dX3_bestOf_106 (lv_at hl 0 rfl) ?_
          refine lv_iload_n hx hb dX3_bestOf_108 rfl (lv_at hl 7 rfl) ?_
          refine lv_icmp_ge (tgt := 164) hx hb dX3_bestOf_109 (by decide) (fun c4990 => ?_) (fun c4990 => ?_)
          · exact fin (fw) g1 hln hm1 ls H locs (hP.sub [0, 1, 2, 3, 4] rfl) (hD.sub [0, 1, 2, 3, 4] (by decide) rfl) hS (lv_sub hl [2, 9, 10] rfl)
          · exact absurd (nI_le (show ll ≤ q by omega) (by omega)) c4990
        | succ r ih2 =>
          intro q g1 hq hno hm1 ls H locs hP hD hS hl
          cases hb9 : (wd &&& rs).testBit q
          · refine lv_iload hx hb dX3_bestOf_106 (lv_at hl 0 rfl) ?_
            refine lv_iload_n hx hb dX3_bestOf_108 rfl (lv_at hl 7 rfl) ?_
            refine lv_icmp_ge (tgt := 164) hx hb dX3_bestOf_109 (by decide) (fun c4991 => ?_) (fun c4991 => ?_)
            · exact absurd c4991 (nI_ge (show q < ll by omega) (by omega))
            · refine lv_iload hx hb dX3_bestOf_112 (lv_at hl 1 rfl) ?_
              refine lv_if_eq (tgt := 164) hx hb dX3_bestOf_114 (by decide) (fun c4992 => ?_) (fun c4992 => ?_)
              · exact absurd c4992 (by decide)
              · refine lv_iload hx hb dX3_bestOf_117 (lv_at hl 2 rfl) ?_
                refine lv_iload hx hb dX3_bestOf_119 (lv_at hl 3 rfl) ?_
                refine lv_icmp_ne (tgt := 164) hx hb dX3_bestOf_121 (by decide) (fun c4993 => ?_) (fun c4993 => ?_)
                · exact absurd rfl c4993
                · refine lv_iload hx hb dX3_bestOf_124 (lv_at hl 4 rfl) ?_
                  refine lv_iload hx hb dX3_bestOf_126 (lv_at hl 0 rfl) ?_
                  refine lv_ishr hx hb dX3_bestOf_128 ?_
                  refine lv_iconst (v := 1) hx hb dX3_bestOf_129 (by decide) ?_
                  refine lv_iand hx hb dX3_bestOf_130 ?_
                  refine lz_top (y := 0) (by rw [bit_ask (by have := Nat.and_le_right (n := wd) (m := rs); omega) (by omega), hb9]; rfl) ?_
                  refine lv_if_eq (tgt := 158) hx hb dX3_bestOf_131 (by decide) (fun c4994 => ?_) (fun c4994 => ?_)
                  · refine lv_iinc (v := (nI (q + 1))) (lv' := [(10, .int (nI (q + 1))), (9, .int 1), (8, .int (nI fw)), (7, .int (nI fw)), (6, .int (nI (wd &&& rs))), (5, .int (nI rs)), (4, .int (-1)), (3, .int (nI ll)), (2, .int (nI dp)), (1, .int (nI n)), (0, .ref h0)]) hx hb dX3_bestOf_158 hl (k := 0) rfl (nI_1 _) (by decide) rfl (fun ls hl => ?_)
                    refine lv_goto (tgt := 106) hx hb dX3_bestOf_161 (by decide) ?_
                    exact ih2 (q + 1) g1 (by omega) (fun q2 h2 b1 b2 => by
                      by_cases e : q2 = q
                      · subst e
                        rw [hbt q2 (by omega), b1, b2] at hb9
                        cases hb9
                      · exact hno q2 (by omega) b1 b2) hm1 ls H locs hP hD hS (lv_sub hl [0, 1, 2, 3, 4, 5, 6, 7, 8, 9, 10] rfl)
                  · exact absurd c4994 (by decide)
          · refine lv_iload hx hb dX3_bestOf_106 (lv_at hl 0 rfl) ?_
            refine lv_iload_n hx hb dX3_bestOf_108 rfl (lv_at hl 7 rfl) ?_
            refine lv_icmp_ge (tgt := 164) hx hb dX3_bestOf_109 (by decide) (fun c4995 => ?_) (fun c4995 => ?_)
            · exact absurd c4995 (nI_ge (show q < ll by omega) (by omega))
            · refine lv_iload hx hb dX3_bestOf_112 (lv_at hl 1 rfl) ?_
              refine lv_if_eq (tgt := 164) hx hb dX3_bestOf_114 (by decide) (fun c4996 => ?_) (fun c4996 => ?_)
              · exact absurd c4996 (by decide)
              · refine lv_iload hx hb dX3_bestOf_117 (lv_at hl 2 rfl) ?_
                refine lv_iload hx hb dX3_bestOf_119 (lv_at hl 3 rfl) ?_
                refine lv_icmp_ne (tgt := 164) hx hb dX3_bestOf_121 (by decide) (fun c4997 => ?_) (fun c4997 => ?_)
                · exact absurd rfl c4997
                · refine lv_iload hx hb dX3_bestOf_124 (lv_at hl 4 rfl) ?_
                  refine lv_iload hx hb dX3_bestOf_126 (lv_at hl 0 rfl) ?_
                  refine lv_ishr hx hb dX3_bestOf_128 ?_
                  refine lv_iconst (v := 1) hx hb dX3_bestOf_129 (by decide) ?_
                  refine lv_iand hx hb dX3_bestOf_130 ?_
                  refine lz_top (y := 1) (by rw [bit_ask (by have := Nat.and_le_right (n := wd) (m := rs); omega) (by omega), hb9]; rfl) ?_
                  refine lv_if_eq (tgt := 158) hx hb dX3_bestOf_131 (by decide) (fun c4998 => ?_) (fun c4998 => ?_)
                  · exact absurd c4998 (by decide)
                  · refine lv_aload_n hx hb dX3_bestOf_134 rfl (lv_at hl 10 rfl) ?_
                    refine lv_iload hx hb dX3_bestOf_135 (lv_at hl 5 rfl) ?_
                    refine lv_iconst (v := 1) hx hb dX3_bestOf_137 (by decide) ?_
                    refine lv_iload hx hb dX3_bestOf_138 (lv_at hl 0 rfl) ?_
                    refine lv_ishl hx hb dX3_bestOf_140 ?_
                    refine lv_iconst (v := (-1)) hx hb dX3_bestOf_141 (by decide) ?_
                    refine lv_ixor hx hb dX3_bestOf_142 ?_
                    refine lv_iand hx hb dX3_bestOf_143 ?_
                    refine lz_top (y := (nI (rmN rs q))) (rmN_I hrs12 (by omega)) ?_
                    refine lv_iload_n hx hb dX3_bestOf_144 rfl (lv_at hl 8 rfl) ?_
                    refine lv_iconst (v := 1) hx hb dX3_bestOf_145 (by decide) ?_
                    refine lv_iadd hx hb dX3_bestOf_146 ?_
                    refine lz_top (y := (nI (dp + 1))) (nI_1 _) ?_
                    have hPc := hP.sub (ws' := [(h0, .inr (3, [.ref h1, .ref h2, .ref h3, .int cs])), (h1, .inr (2, [.ref h4, .int (nI k), .int ch])), (h4, .inl (cI, 12, .inl f)), (h2, .inr (1, [.ref h5, .int (nI ag)])), (h5, .inl (cI, 4096, .inl g1))]) [0, 1, 2, 3, 4] rfl
                    have hDc := hD.sub (ws' := [(h0, .inr (3, [.ref h1, .ref h2, .ref h3, .int cs])), (h1, .inr (2, [.ref h4, .int (nI k), .int ch])), (h4, .inl (cI, 12, .inl f)), (h2, .inr (1, [.ref h5, .int (nI ag)])), (h5, .inl (cI, 4096, .inl g1))]) [0, 1, 2, 3, 4] (by decide) rfl
                    refine lz_qf (wr := []) (w1 := fun (u : Nat → Int32) => [(h0, .inr (3, [.ref h1, .ref h2, .ref h3, .int cs])), (h1, .inr (2, [.ref h4, .int (nI k), .int ch])), (h4, .inl (cI, 12, .inl f)), (h2, .inr (1, [.ref h5, .int (nI ag)])), (h5, .inl (cI, 4096, .inl u))]) (As := [.int (nI (rmN rs q)), .int (nI (dp + 1))]) (rest := []) ⟨hx, hb, hml, hown, hts⟩ (ih _ g1 (rmN rs q) (dp + 1) (by omega) (Nat.lt_of_le_of_lt Nat.and_le_left hrs4) (by omega) hm1) hKK hP hD hS hA [0, 1, 2, 3, 4] [] (by decide) rfl rfl (by decide) (by decide) hPc hDc (ci := 3) rfl rfl (cwV 2 hts gX3_bestOf_X3_bestOf rfl rfl rfl (by decide +kernel) ⟨by show j + 1 + 1 ≤ j + 1 + 1; omega, by show 8 + (11 + 11) + 40 * (j + 1) ≤ 40 * (j + 1 + 1); omega⟩) rfl hl.1 rfl (Nat.le_of_ble_eq_true rfl) dX3_bestOf_147 ⟨Nat.le_of_ble_eq_true rfl, Nat.le_of_ble_eq_true rfl⟩ (fun r9 u H locs hu hP hD hS => ?_)
                    have hP : va_P D cls [(h0, .inr (3, [.ref h1, .ref h2, .ref h3, .int cs])), (h1, .inr (2, [.ref h4, .int (nI k), .int ch])), (h4, .inl (cI, 12, .inl f)), (h2, .inr (1, [.ref h5, .int (nI ag)])), (h5, .inl (cI, 4096, .inl u))] H := hP
                    have hD : va_D A [(h0, .inr (3, [.ref h1, .ref h2, .ref h3, .int cs])), (h1, .inr (2, [.ref h4, .int (nI k), .int ch])), (h4, .inl (cI, 12, .inl f)), (h2, .inr (1, [.ref h5, .int (nI ag)])), (h5, .inl (cI, 4096, .inl u))] := hD
                    refine lz_top (y := (nI (nuS k f (rmN rs q)))) (hu.1) ?_
                    refine lv_iload hx hb dX3_bestOf_150 (lv_at hl 3 rfl) ?_
                    refine lv_icmp_ne (tgt := 158) hx hb dX3_bestOf_152 (by decide) (fun c4999 => ?_) (fun c4999 => ?_)
                    · refine lv_iinc (v := (nI (q + 1))) (lv' := [(10, .int (nI (q + 1))), (9, .int 1), (8, .int (nI fw)), (7, .int (nI fw)), (6, .int (nI (wd &&& rs))), (5, .int (nI rs)), (4, .int (-1)), (3, .int (nI ll)), (2, .int (nI dp)), (1, .int (nI n)), (0, .ref h0)]) hx hb dX3_bestOf_158 hl (k := 0) rfl (nI_1 _) (by decide) rfl (fun ls hl => ?_)
                      refine lv_goto (tgt := 106) hx hb dX3_bestOf_161 (by decide) ?_
                      exact ih2 (q + 1) u (by omega) (fun q2 h2 b1 b2 => by
                        by_cases e : q2 = q
                        · subst e
                          exact fun z => c4999 (by rw [z])
                        · exact hno q2 (by omega) b1 b2) hu.2 ls H locs hP hD hS (lv_sub hl [0, 1, 2, 3, 4, 5, 6, 7, 8, 9, 10] rfl)
                    · refine lv_iinc (v := (nI (fw + 1))) (lv' := [(8, .int (nI (fw + 1))), (10, .int (nI q)), (9, .int 1), (7, .int (nI fw)), (6, .int (nI (wd &&& rs))), (5, .int (nI rs)), (4, .int (-1)), (3, .int (nI ll)), (2, .int (nI dp)), (1, .int (nI n)), (0, .ref h0)]) hx hb dX3_bestOf_155 hl (k := 2) rfl (nI_1 _) (by decide) rfl (fun ls hl => ?_)
                      refine lv_iinc (v := (nI (q + 1))) (lv' := [(10, .int (nI (q + 1))), (8, .int (nI (fw + 1))), (9, .int 1), (7, .int (nI fw)), (6, .int (nI (wd &&& rs))), (5, .int (nI rs)), (4, .int (-1)), (3, .int (nI ll)), (2, .int (nI dp)), (1, .int (nI n)), (0, .ref h0)]) hx hb dX3_bestOf_158 hl (k := 1) rfl (nI_1 _) (by decide) rfl (fun ls hl => ?_)
                      refine lv_goto (tgt := 106) hx hb dX3_bestOf_161 (by decide) ?_
                      exact done (q + 1) u (by omega) (by rw [t2 q (by omega) (by have z := hb9; rw [hbt q (by omega), Bool.and_eq_true] at z; exact z.1) (by have z := hb9; rw [hbt q (by omega), Bool.and_eq_true] at z; exact z.2) ((nI_eq (by have := nuS_le hk f (rmN rs q); omega) (by omega)).mp c4999)]) hu.2 ls H locs hP hD hS (lv_sub hl [0, 2, 1, 3, 4, 5, 6, 7, 8, 9, 10] rfl)
      by_cases hh : v / 2 ^ 16 = ag
      · refine lv_bipush (v := 31) hx hb dX3_bestOf_0 (by decide) ?_
        refine lv_iload_n hx hb dX3_bestOf_2 rfl (lv_at hl 1 rfl) ?_
        have hPc := hP.sub (ws' := []) [] rfl
        refine lz_ss (As := [.int (nI n)]) (rest := [.int 31]) ⟨hx, hb, hml, hown, hts⟩ (c_J6_numberOfLeadingZeros_0f7a4_1 l D cI cS (nI n)) hKK hPc (va_cwS 1 hts gX3_bestOf_J6_numberOfLeadingZeros_0f7a4 rfl rfl rfl (by decide +kernel) ⟨by show 0 + 1 ≤ j + 1 + 1; omega, by show 8 + (2 + 11) + 0 ≤ 40 * (j + 1 + 1); omega⟩) rfl hl.1 rfl (Nat.le_of_ble_eq_true rfl) dX3_bestOf_3 ⟨Nat.le_of_ble_eq_true rfl, Nat.le_of_ble_eq_true rfl⟩ (fun r9 hw => ?_)
        subst hw
        refine lv_isub hx hb dX3_bestOf_6 ?_
        refine lz_top (y := (nI ll)) (hnl) ?_
        refine lv_istore_n (lv' := [(3, .int (nI ll)), (0, .ref h0), (1, .int (nI n)), (2, .int (nI dp))]) hx hb dX3_bestOf_7 rfl hl (by decide) rfl (fun ls hl => ?_)
        refine lv_iload_n hx hb dX3_bestOf_8 rfl (lv_at hl 0 rfl) ?_
        refine lv_iconst (v := 1) hx hb dX3_bestOf_9 (by decide) ?_
        refine lv_icmp_lt (tgt := 25) hx hb dX3_bestOf_10 (by decide) (fun c5000 => ?_) (fun c5000 => ?_)
        · exact absurd c5000 (show ¬ nI ll < (1 : Int32) from nI_nlt (b := 1) (by omega) (by omega))
        · refine lv_iload_n hx hb dX3_bestOf_13 rfl (lv_at hl 0 rfl) ?_
          refine lv_bipush (v := 12) hx hb dX3_bestOf_14 (by decide) ?_
          refine lv_icmp_ge (tgt := 25) hx hb dX3_bestOf_16 (by decide) (fun c5001 => ?_) (fun c5001 => ?_)
          · exact absurd c5001 (show ¬ (12 : Int32) ≤ nI ll from nI_ge (b := 12) (by omega) (by omega))
          · refine lv_iload_n hx hb dX3_bestOf_19 rfl (lv_at hl 3 rfl) ?_
            refine lv_bipush (v := 12) hx hb dX3_bestOf_20 (by decide) ?_
            refine lv_icmp_le (tgt := 27) hx hb dX3_bestOf_22 (by decide) (fun c5002 => ?_) (fun c5002 => ?_)
            · refine lv_aload_n hx hb dX3_bestOf_27 rfl (lv_at hl 1 rfl) ?_
              refine va_get (D := D) (ci := 3) (v := .ref h2) (C := RX3) (T := TX3) (N := 4) hx hb hts hin3 hown hK hP 0 rfl rfl 1 (by decide) (hts (.fieldLink RX3 14 "MissedPoints$Pairs" "mosts" "LMissedPoints$Memo;") (by decide +kernel)) (fun _ h9 => h9) rfl dX3_bestOf_28 ?_
              refine lv_iload_n hx hb dX3_bestOf_31 rfl (lv_at hl 2 rfl) ?_
              have hPc := hP.sub (ws' := [(h2, .inr (1, [.ref h5, .int (nI ag)])), (h5, .inl (cI, 4096, .inl g))]) [3, 4] rfl
              refine lz_sv (As := [.int (nI n)]) (rest := []) ⟨hx, hb, hml, hown, hts⟩ (c_recall1 l D cI cS h2 h5 g ag n v (by omega) hn4 hv ev hh) hKK hPc (ci := 1) rfl rfl (cwV 1 hts gX3_bestOf_X1_recall rfl rfl rfl (by decide +kernel) ⟨by show 0 + 1 ≤ j + 1 + 1; omega, by show 8 + (2 + 11) + 0 ≤ 40 * (j + 1 + 1); omega⟩) rfl hl.1 rfl (Nat.le_of_ble_eq_true rfl) dX3_bestOf_32 ⟨Nat.le_of_ble_eq_true rfl, Nat.le_of_ble_eq_true rfl⟩ (fun r9 hw => ?_)
              subst hw
              refine lz_top (y := (nI (nuS k f n))) (by rw [hvm hh]) ?_
              refine lv_istore (lv' := [(4, .int (nI (nuS k f n))), (3, .int (nI ll)), (0, .ref h0), (1, .int (nI n)), (2, .int (nI dp))]) hx hb dX3_bestOf_35 hl (by decide) rfl (fun ls hl => ?_)
              refine lv_iload hx hb dX3_bestOf_37 (lv_at hl 0 rfl) ?_
              refine lv_if_lt (tgt := 45) hx hb dX3_bestOf_39 (by decide) (fun c5003 => ?_) (fun c5003 => ?_)
              · exact absurd c5003 (nI_pos (by omega))
              · refine lv_iload hx hb dX3_bestOf_42 (lv_at hl 0 rfl) ?_
                have hP9 := hP.sub (ws' := [(h0, .inr (3, [.ref h1, .ref h2, .ref h3, .int cs])), (h1, .inr (2, [.ref h4, .int (nI k), .int ch])), (h4, .inl (cI, 12, .inl f)), (h2, .inr (1, [.ref h5, .int (nI ag)])), (h5, .inl (cI, 4096, .inl g))]) [0, 1, 2, 3, 4] rfl
                have hD9 := hD.sub (ws' := [(h0, .inr (3, [.ref h1, .ref h2, .ref h3, .int cs])), (h1, .inr (2, [.ref h4, .int (nI k), .int ch])), (h4, .inl (cI, 12, .inl f)), (h2, .inr (1, [.ref h5, .int (nI ag)])), (h5, .inl (cI, 4096, .inl g))]) [0, 1, 2, 3, 4] (by decide) rfl
                subst hAe
                exact W.iret (v := nI (nuS k f n)) hx hb hr (fun t ht hW => ⟨⟨_, g, rfl, ⟨rfl, hmv⟩, by rw [ht]; exact hP9, hD9⟩, hS.F ht⟩) hS.2.2 dX3_bestOf_44
            · exact absurd (show nI dp ≤ (12 : Int32) from nI_le (b := 12) (by omega) (by omega)) c5002
      · refine lv_bipush (v := 31) hx hb dX3_bestOf_0 (by decide) ?_
        refine lv_iload_n hx hb dX3_bestOf_2 rfl (lv_at hl 1 rfl) ?_
        have hPc := hP.sub (ws' := []) [] rfl
        refine lz_ss (As := [.int (nI n)]) (rest := [.int 31]) ⟨hx, hb, hml, hown, hts⟩ (c_J6_numberOfLeadingZeros_0f7a4_1 l D cI cS (nI n)) hKK hPc (va_cwS 1 hts gX3_bestOf_J6_numberOfLeadingZeros_0f7a4 rfl rfl rfl (by decide +kernel) ⟨by show 0 + 1 ≤ j + 1 + 1; omega, by show 8 + (2 + 11) + 0 ≤ 40 * (j + 1 + 1); omega⟩) rfl hl.1 rfl (Nat.le_of_ble_eq_true rfl) dX3_bestOf_3 ⟨Nat.le_of_ble_eq_true rfl, Nat.le_of_ble_eq_true rfl⟩ (fun r9 hw => ?_)
        subst hw
        refine lv_isub hx hb dX3_bestOf_6 ?_
        refine lz_top (y := (nI ll)) (hnl) ?_
        refine lv_istore_n (lv' := [(3, .int (nI ll)), (0, .ref h0), (1, .int (nI n)), (2, .int (nI dp))]) hx hb dX3_bestOf_7 rfl hl (by decide) rfl (fun ls hl => ?_)
        refine lv_iload_n hx hb dX3_bestOf_8 rfl (lv_at hl 0 rfl) ?_
        refine lv_iconst (v := 1) hx hb dX3_bestOf_9 (by decide) ?_
        refine lv_icmp_lt (tgt := 25) hx hb dX3_bestOf_10 (by decide) (fun c5004 => ?_) (fun c5004 => ?_)
        · exact absurd c5004 (show ¬ nI ll < (1 : Int32) from nI_nlt (b := 1) (by omega) (by omega))
        · refine lv_iload_n hx hb dX3_bestOf_13 rfl (lv_at hl 0 rfl) ?_
          refine lv_bipush (v := 12) hx hb dX3_bestOf_14 (by decide) ?_
          refine lv_icmp_ge (tgt := 25) hx hb dX3_bestOf_16 (by decide) (fun c5005 => ?_) (fun c5005 => ?_)
          · exact absurd c5005 (show ¬ (12 : Int32) ≤ nI ll from nI_ge (b := 12) (by omega) (by omega))
          · refine lv_iload_n hx hb dX3_bestOf_19 rfl (lv_at hl 3 rfl) ?_
            refine lv_bipush (v := 12) hx hb dX3_bestOf_20 (by decide) ?_
            refine lv_icmp_le (tgt := 27) hx hb dX3_bestOf_22 (by decide) (fun c5006 => ?_) (fun c5006 => ?_)
            · refine lv_aload_n hx hb dX3_bestOf_27 rfl (lv_at hl 1 rfl) ?_
              refine va_get (D := D) (ci := 3) (v := .ref h2) (C := RX3) (T := TX3) (N := 4) hx hb hts hin3 hown hK hP 0 rfl rfl 1 (by decide) (hts (.fieldLink RX3 14 "MissedPoints$Pairs" "mosts" "LMissedPoints$Memo;") (by decide +kernel)) (fun _ h9 => h9) rfl dX3_bestOf_28 ?_
              refine lv_iload_n hx hb dX3_bestOf_31 rfl (lv_at hl 2 rfl) ?_
              have hPc := hP.sub (ws' := [(h2, .inr (1, [.ref h5, .int (nI ag)])), (h5, .inl (cI, 4096, .inl g))]) [3, 4] rfl
              refine lz_sv (As := [.int (nI n)]) (rest := []) ⟨hx, hb, hml, hown, hts⟩ (c_recall0 l D cI cS h2 h5 g ag n v (by omega) hn4 hv ev hh) hKK hPc (ci := 1) rfl rfl (cwV 1 hts gX3_bestOf_X1_recall rfl rfl rfl (by decide +kernel) ⟨by show 0 + 1 ≤ j + 1 + 1; omega, by show 8 + (2 + 11) + 0 ≤ 40 * (j + 1 + 1); omega⟩) rfl hl.1 rfl (Nat.le_of_ble_eq_true rfl) dX3_bestOf_32 ⟨Nat.le_of_ble_eq_true rfl, Nat.le_of_ble_eq_true rfl⟩ (fun r9 hw => ?_)
              subst hw
              refine lv_istore (lv' := [(4, .int (-1)), (3, .int (nI ll)), (0, .ref h0), (1, .int (nI n)), (2, .int (nI dp))]) hx hb dX3_bestOf_35 hl (by decide) rfl (fun ls hl => ?_)
              refine lv_iload hx hb dX3_bestOf_37 (lv_at hl 0 rfl) ?_
              refine lv_if_lt (tgt := 45) hx hb dX3_bestOf_39 (by decide) (fun c5007 => ?_) (fun c5007 => ?_)
              · refine lv_iload_n hx hb dX3_bestOf_45 rfl (lv_at hl 3 rfl) ?_
                refine lv_iconst (v := 1) hx hb dX3_bestOf_46 (by decide) ?_
                refine lv_iload_n hx hb dX3_bestOf_47 rfl (lv_at hl 1 rfl) ?_
                refine lv_ishl hx hb dX3_bestOf_48 ?_
                refine lv_iconst (v := (-1)) hx hb dX3_bestOf_49 (by decide) ?_
                refine lv_ixor hx hb dX3_bestOf_50 ?_
                refine lv_iand hx hb dX3_bestOf_51 ?_
                refine lz_top (y := (nI rs)) (by rw [← hrs]; exact rmN_I hn4 (by omega)) ?_
                refine lv_istore (lv' := [(5, .int (nI rs)), (4, .int (-1)), (3, .int (nI ll)), (0, .ref h0), (1, .int (nI n)), (2, .int (nI dp))]) hx hb dX3_bestOf_52 hl (by decide) rfl (fun ls hl => ?_)
                refine lv_aload_n hx hb dX3_bestOf_54 rfl (lv_at hl 3 rfl) ?_
                refine va_get (D := D) (ci := 3) (v := .ref h1) (C := RX3) (T := TX3) (N := 4) hx hb hts hin3 hown hK hP 0 rfl rfl 0 (by decide) (hts (.fieldLink RX3 23 "MissedPoints$Pairs" "net" "LMissedPoints$Net;") (by decide +kernel)) (fun _ h9 => h9) rfl dX3_bestOf_55 ?_
                refine va_getN (D := D) (ci := 2) (v := .ref h4) (C := RX2) (T := TX2) (N := 3) hx hb hts hin2 hown hK hP 1 rfl rfl 0 (by decide) (va_Nw.use rfl hN.2.2.2.2.2.2.2.2.2.2.2.1) (fun _ h9 => h9) rfl dX3_bestOf_58 ?_
                refine lv_iload_n hx hb dX3_bestOf_61 rfl (lv_at hl 2 rfl) ?_
                refine lz_ald hx hb hK hP 2 0 rfl rfl ll ⟨by omega, Nat.le_of_ble_eq_true rfl⟩ dX3_bestOf_62 ?_
                refine lz_top (y := (nI wd)) (ewd) ?_
                refine lv_iload hx hb dX3_bestOf_63 (lv_at hl 0 rfl) ?_
                refine lv_iand hx hb dX3_bestOf_65 ?_
                refine lz_top (y := (nI (wd &&& rs))) (fa_and _ _) ?_
                refine lv_istore (lv' := [(6, .int (nI (wd &&& rs))), (5, .int (nI rs)), (4, .int (-1)), (3, .int (nI ll)), (0, .ref h0), (1, .int (nI n)), (2, .int (nI dp))]) hx hb dX3_bestOf_66 hl (by decide) rfl (fun ls hl => ?_)
                refine lv_aload_n hx hb dX3_bestOf_68 rfl (lv_at hl 4 rfl) ?_
                refine lv_iload hx hb dX3_bestOf_69 (lv_at hl 1 rfl) ?_
                refine lv_iload_n hx hb dX3_bestOf_71 rfl (lv_at hl 6 rfl) ?_
                refine lv_iconst (v := 1) hx hb dX3_bestOf_72 (by decide) ?_
                refine lv_iadd hx hb dX3_bestOf_73 ?_
                refine lz_top (y := (nI (dp + 1))) (nI_1 _) ?_
                have hPc := hP.sub (ws' := [(h0, .inr (3, [.ref h1, .ref h2, .ref h3, .int cs])), (h1, .inr (2, [.ref h4, .int (nI k), .int ch])), (h4, .inl (cI, 12, .inl f)), (h2, .inr (1, [.ref h5, .int (nI ag)])), (h5, .inl (cI, 4096, .inl g))]) [0, 1, 2, 3, 4] rfl
                have hDc := hD.sub (ws' := [(h0, .inr (3, [.ref h1, .ref h2, .ref h3, .int cs])), (h1, .inr (2, [.ref h4, .int (nI k), .int ch])), (h4, .inl (cI, 12, .inl f)), (h2, .inr (1, [.ref h5, .int (nI ag)])), (h5, .inl (cI, 4096, .inl g))]) [0, 1, 2, 3, 4] (by decide) rfl
                refine lz_qf (wr := []) (w1 := fun (u : Nat → Int32) => [(h0, .inr (3, [.ref h1, .ref h2, .ref h3, .int cs])), (h1, .inr (2, [.ref h4, .int (nI k), .int ch])), (h4, .inl (cI, 12, .inl f)), (h2, .inr (1, [.ref h5, .int (nI ag)])), (h5, .inl (cI, 4096, .inl u))]) (As := [.int (nI rs), .int (nI (dp + 1))]) (rest := []) ⟨hx, hb, hml, hown, hts⟩ (ih _ g rs (dp + 1) (by omega) hrs4 (by omega) hmv) hKK hP hD hS hA [0, 1, 2, 3, 4] [] (by decide) rfl rfl (by decide) (by decide) hPc hDc (ci := 3) rfl rfl (cwV 2 hts gX3_bestOf_X3_bestOf rfl rfl rfl (by decide +kernel) ⟨by show j + 1 + 1 ≤ j + 1 + 1; omega, by show 8 + (11 + 11) + 40 * (j + 1) ≤ 40 * (j + 1 + 1); omega⟩) rfl hl.1 rfl (Nat.le_of_ble_eq_true rfl) dX3_bestOf_74 ⟨Nat.le_of_ble_eq_true rfl, Nat.le_of_ble_eq_true rfl⟩ (fun r9 u H locs hu hP hD hS => ?_)
                have hP : va_P D cls [(h0, .inr (3, [.ref h1, .ref h2, .ref h3, .int cs])), (h1, .inr (2, [.ref h4, .int (nI k), .int ch])), (h4, .inl (cI, 12, .inl f)), (h2, .inr (1, [.ref h5, .int (nI ag)])), (h5, .inl (cI, 4096, .inl u))] H := hP
                have hD : va_D A [(h0, .inr (3, [.ref h1, .ref h2, .ref h3, .int cs])), (h1, .inr (2, [.ref h4, .int (nI k), .int ch])), (h4, .inl (cI, 12, .inl f)), (h2, .inr (1, [.ref h5, .int (nI ag)])), (h5, .inl (cI, 4096, .inl u))] := hD
                refine lz_top (y := (nI fw)) (by rw [hu.1, hfw]) ?_
                refine lv_istore (lv' := [(7, .int (nI fw)), (6, .int (nI (wd &&& rs))), (5, .int (nI rs)), (4, .int (-1)), (3, .int (nI ll)), (0, .ref h0), (1, .int (nI n)), (2, .int (nI dp))]) hx hb dX3_bestOf_77 hl (by decide) rfl (fun ls hl => ?_)
                refine lv_iload hx hb dX3_bestOf_79 (lv_at hl 0 rfl) ?_
                refine lv_istore (lv' := [(8, .int (nI fw)), (7, .int (nI fw)), (6, .int (nI (wd &&& rs))), (5, .int (nI rs)), (4, .int (-1)), (3, .int (nI ll)), (0, .ref h0), (1, .int (nI n)), (2, .int (nI dp))]) hx hb dX3_bestOf_81 hl (by decide) rfl (fun ls hl => ?_)
                refine lv_iconst (v := 2) hx hb dX3_bestOf_83 (by decide) ?_
                refine lv_iload hx hb dX3_bestOf_84 (lv_at hl 1 rfl) ?_
                refine lv_imul hx hb dX3_bestOf_86 ?_
                refine lz_top (y := (nI (2 * fw))) ((show (2 : Int32) * nI fw = nI (2 * fw) from pk_mul 2 fw)) ?_
                refine lv_iconst (v := 2) hx hb dX3_bestOf_87 (by decide) ?_
                refine lv_iadd hx hb dX3_bestOf_88 ?_
                refine lz_top (y := (nI (2 * fw + 2))) ((show nI (2 * fw) + 2 = nI (2 * fw + 2) from nI_add _ 2)) ?_
                refine lv_iload_n hx hb dX3_bestOf_89 rfl (lv_at hl 7 rfl) ?_
                have hPc := hP.sub (ws' := []) [] rfl
                refine lz_ss (As := [.int (nI n)]) (rest := [.int (nI (2 * fw + 2))]) ⟨hx, hb, hml, hown, hts⟩ (c_J6_bitCount_0f7a4_1 l D cI cS (nI n)) hKK hPc (va_cwS 1 hts gX3_bestOf_J6_bitCount_0f7a4 rfl rfl rfl (by decide +kernel) ⟨by show 0 + 1 ≤ j + 1 + 1; omega, by show 8 + (1 + 11) + 0 ≤ 40 * (j + 1 + 1); omega⟩) rfl hl.1 rfl (Nat.le_of_ble_eq_true rfl) dX3_bestOf_90 ⟨Nat.le_of_ble_eq_true rfl, Nat.le_of_ble_eq_true rfl⟩ (fun r5008 hw => ?_)
                subst hw
                refine lz_top (y := (nI (ncn (tb n) 12))) (bc_cnt hn4) ?_
                refine lv_icmp_gt (tgt := 100) hx hb dX3_bestOf_93 (by decide) (fun c5009 => ?_) (fun c5009 => ?_)
                · refine lv_iconst (v := 0) hx hb dX3_bestOf_100 (by decide) ?_
                  refine lv_istore (lv' := [(9, .int 0), (8, .int (nI fw)), (7, .int (nI fw)), (6, .int (nI (wd &&& rs))), (5, .int (nI rs)), (4, .int (-1)), (3, .int (nI ll)), (0, .ref h0), (1, .int (nI n)), (2, .int (nI dp))]) hx hb dX3_bestOf_101 hl (by decide) rfl (fun ls hl => ?_)
                  refine lv_iconst (v := 0) hx hb dX3_bestOf_103 (by decide) ?_
                  refine lv_istore (lv' := [(10, .int 0), (9, .int 0), (8, .int (nI fw)), (7, .int (nI fw)), (6, .int (nI (wd &&& rs))), (5, .int (nI rs)), (4, .int (-1)), (3, .int (nI ll)), (0, .ref h0), (1, .int (nI n)), (2, .int (nI dp))]) hx hb dX3_bestOf_104 hl (by decide) rfl (fun ls hl => ?_)
                  refine lv_iload hx hb dX3_bestOf_106 (lv_at hl 0 rfl) ?_
                  refine lv_iload_n hx hb dX3_bestOf_108 rfl (lv_at hl 7 rfl) ?_
                  refine lv_icmp_ge (tgt := 164) hx hb dX3_bestOf_109 (by decide) (fun c5010 => ?_) (fun c5010 => ?_)
                  · exact absurd c5010 (show ¬ nI ll ≤ (0 : Int32) from nI_ge (a := 0) (by omega) (by omega))
                  · refine lv_iload hx hb dX3_bestOf_112 (lv_at hl 1 rfl) ?_
                    refine lv_if_eq (tgt := 164) hx hb dX3_bestOf_114 (by decide) (fun c5011 => ?_) (fun c5011 => ?_)
                    · exact fin fw u (by have z := (nI_ltI (by have := ncn_le (tb n) 12; omega) (by omega)).mp c5009; omega) hu.2 ls H locs (hP.sub [0, 1, 2, 3, 4] rfl) (hD.sub [0, 1, 2, 3, 4] (by decide) rfl) hS (lv_sub hl [2, 9, 8] rfl)
                    · exact absurd c5011 (by decide)
                · refine lv_iconst (v := 1) hx hb dX3_bestOf_96 (by decide) ?_
                  refine lv_goto (tgt := 101) hx hb dX3_bestOf_97 (by decide) ?_
                  refine lv_istore (lv' := [(9, .int 1), (8, .int (nI fw)), (7, .int (nI fw)), (6, .int (nI (wd &&& rs))), (5, .int (nI rs)), (4, .int (-1)), (3, .int (nI ll)), (0, .ref h0), (1, .int (nI n)), (2, .int (nI dp))]) hx hb dX3_bestOf_101 hl (by decide) rfl (fun ls hl => ?_)
                  refine lv_iconst (v := 0) hx hb dX3_bestOf_103 (by decide) ?_
                  refine lv_istore (lv' := [(10, .int 0), (9, .int 1), (8, .int (nI fw)), (7, .int (nI fw)), (6, .int (nI (wd &&& rs))), (5, .int (nI rs)), (4, .int (-1)), (3, .int (nI ll)), (0, .ref h0), (1, .int (nI n)), (2, .int (nI dp))]) hx hb dX3_bestOf_104 hl (by decide) rfl (fun ls hl => ?_)
                  exact lp ll 0 u (by omega) (fun q2 h2 => absurd h2 (by omega)) hu.2 ls H locs hP hD hS (by rw [nI_0]; exact lv_sub hl [0, 1, 2, 3, 4, 5, 6, 7, 10, 9, 8] rfl)
              · exact absurd c5007 (by decide)
            · exact absurd (show nI dp ≤ (12 : Int32) from nI_le (b := 12) (by omega) (by omega)) c5006
