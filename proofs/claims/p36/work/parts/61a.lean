/-! a net that is dealt -/
def remT (x : Int32) : Int32 := x - x / 10 * 10
def drw (z : Int32) : Int32 := (Int32.toUInt32 (zsN z) >>> (Int32.toUInt32 16 &&& Int32.toUInt32 31)).toInt32
def lm (f : Nat → Int32) (a b : Int32) : Int32 := f a.toNatClampNeg ||| ((1 : Int32) <<< (b &&& 31))
def layI (f : Nat → Int32) (a b : Int32) : Nat → Int32 := upd (upd f a.toNatClampNeg (lm f a b)) b.toNatClampNeg (lm (upd f a.toNatClampNeg (lm f a b)) b a)
def dstp (od a b : Int32) (st : (Nat → Int32) × Int32) : (Nat → Int32) × Int32 := (if remT (drw st.2) < od then layI st.1 a b else st.1, zsN st.2)
def pin (od a : Int32) (st : (Nat → Int32) × Int32) : Nat → (Nat → Int32) × Int32
  | 0 => st
  | k + 1 => dstp od a (nI (a.toNatClampNeg + 1 + k)) (pin od a st k)
def pout (od : Int32) (n : Nat) (z : Int32) : Nat → (Nat → Int32) × Int32
  | 0 => (fun _ => 0, z)
  | a + 1 => pin od (nI a) (pout od n z a) (n - 1 - a)
def LikeN (n : Nat) (f g : Nat → Int32) : Prop := ∀ j, j < n → f j = g j
theorem LikeN.lay {n : Nat} {f g : Nat → Int32} (h : LikeN n f g) {a b : Int32} (ha : a.toNatClampNeg < n) (hb : b.toNatClampNeg < n) : LikeN n (layI f a b) (layI g a b) := by
  have e1 : lm f a b = lm g a b := by unfold lm; rw [h _ ha]
  have h1 : LikeN n (upd f a.toNatClampNeg (lm f a b)) (upd g a.toNatClampNeg (lm g a b)) := fun j hj => by
    by_cases e : j = a.toNatClampNeg
    · rw [e, upd_eq, upd_eq, e1]
    · rw [upd_ne e, upd_ne e]; exact h j hj
  intro j hj
  unfold layI
  by_cases e : j = b.toNatClampNeg
  · rw [e, upd_eq, upd_eq]
    exact congrArg (fun x => x ||| ((1 : Int32) <<< (a &&& 31))) (h1 _ hb)
  · rw [upd_ne e, upd_ne e]
    exact h1 j hj
def sumB (f : Nat → Int32) : Nat → Int32
  | 0 => 0
  | k + 1 => sumB f k + bc (f k)
theorem sumB_like {n : Nat} {f g : Nat → Int32} (h : LikeN n f g) : ∀ k, k ≤ n → sumB f k = sumB g k
  | 0, _ => rfl
  | k + 1, hk => by
    show sumB f k + bc (f k) = sumB g k + bc (g k)
    rw [sumB_like h k (by omega), h k (by omega)]
def dealF (n od z : Int32) : Int32 := if n < 0 then -2 else if 12 < n then -2 else if od < 0 then -2 else if 10 < od then -2 else sumB (pout od n.toNatClampNeg z n.toNatClampNeg).1 n.toNatClampNeg / 2
theorem lz_msk (x m : Int32) : (x &&& (m ^^^ (-1))) ||| m = x ||| m := by
  rw [wk_xorE]
  apply Int32.toBitVec_inj.mp
  rw [Int32.toBitVec_or, Int32.toBitVec_or, Int32.toBitVec_and, Int32.toBitVec_not]
  apply BitVec.eq_of_getLsbD_eq
  intro i hi
  simp only [BitVec.getLsbD_or, BitVec.getLsbD_and, BitVec.getLsbD_not, hi, decide_true, Bool.true_and]
  cases x.toBitVec.getLsbD i <;> cases m.toBitVec.getLsbD i <;> rfl
theorem lay_of {v v1 v2 : SU} {a b p q : Int32} (e1 : v1 = sU v 1 (upd (v 1) a.toNatClampNeg p)) (e2 : v2 = sU v1 1 (upd (v1 1) b.toNatClampNeg q)) (h1 : p = (v 1 a.toNatClampNeg &&& (((1 : Int32) <<< (b &&& 31)) ^^^ (-1))) ||| ((1 : Int32) <<< (b &&& 31))) (h2 : q = (v1 1 b.toNatClampNeg &&& (((1 : Int32) <<< (a &&& 31)) ^^^ (-1))) ||| ((1 : Int32) <<< (a &&& 31))) : v2 1 = layI (v 1) a b := by
  subst e2
  show upd (v1 1) b.toNatClampNeg q = _
  rw [lz_msk] at h1 h2
  subst h2
  subst e1
  subst h1
  rfl
/-- the rows are empty at first -/
theorem pd_z {v v1 : SU} {p p2 : Int32} (h : ∀ j, j < p.toNatClampNeg → v 1 j = 0) (hp : 0 ≤ p.toInt) (h2 : p2.toInt = p.toInt + 1) (e : v1 = sU v 1 (upd (v 1) p.toNatClampNeg 0)) : ∀ j, j < p2.toNatClampNeg → v1 1 j = 0 := by
  subst e
  intro j hj
  show upd (v 1) p.toNatClampNeg 0 j = 0
  have e1 : p.toNatClampNeg = p.toInt.toNat := rfl
  have e2 : p2.toNatClampNeg = p2.toInt.toNat := rfl
  by_cases z : j = p.toNatClampNeg
  · rw [z, upd_eq]
  · rw [upd_ne z]
    exact h j (by omega)
/-- the state of a deal: row f and z behind a rounds, and k steps of the next -/
def PO (n od z0 : Int32) (f : Nat → Int32) (z a : Int32) : Prop := LikeN n.toNatClampNeg f (pout od n.toNatClampNeg z0 a.toNatClampNeg).1 ∧ z = (pout od n.toNatClampNeg z0 a.toNatClampNeg).2
def PI (n od z0 : Int32) (f : Nat → Int32) (z a b : Int32) : Prop := LikeN n.toNatClampNeg f (pin od a (pout od n.toNatClampNeg z0 a.toNatClampNeg) (b.toNatClampNeg - a.toNatClampNeg - 1)).1 ∧ z = (pin od a (pout od n.toNatClampNeg z0 a.toNatClampNeg) (b.toNatClampNeg - a.toNatClampNeg - 1)).2
theorem PO.zero {n od z0 a : Int32} {f : Nat → Int32} (h : ∀ j, j < n.toNatClampNeg → f j = 0) (ha : a.toInt = 0) : PO n od z0 f z0 a := by
  have e : a.toNatClampNeg = 0 := by
    have e1 : a.toNatClampNeg = a.toInt.toNat := rfl
    omega
  unfold PO
  rw [e]
  exact ⟨h, rfl⟩
theorem PI.zero {n od z0 z a b : Int32} {f : Nat → Int32} (h : PO n od z0 f z a) (ha : 0 ≤ a.toInt) (hb : b.toInt = a.toInt + 1) : PI n od z0 f z a b := by
  have e1 : a.toNatClampNeg = a.toInt.toNat := rfl
  have e2 : b.toNatClampNeg = b.toInt.toNat := rfl
  unfold PI
  rw [show b.toNatClampNeg - a.toNatClampNeg - 1 = 0 by omega]
  exact h
theorem nI_b9 {b : Int32} {k : Nat} (h : b.toInt = (k : Int)) : nI k = b := by
  have h2 := (rg_any b).2
  apply Int32.toInt_inj.mp
  rw [nI_toInt (by omega), h]
theorem PI.step {n od z0 z z2 a b b2 : Int32} {f g : Nat → Int32} (h : PI n od z0 f z a b) (ha : 0 ≤ a.toInt) (hab : a.toInt < b.toInt) (hbn : b.toInt < n.toInt) (hb : b2.toInt = b.toInt + 1) (hz : z2 = zsN z) (hg : (remT (drw z) < od ∧ g = layI f a b) ∨ (¬ remT (drw z) < od ∧ g = f)) : PI n od z0 g z2 a b2 := by
  have e1 : a.toNatClampNeg = a.toInt.toNat := rfl
  have e2 : b.toNatClampNeg = b.toInt.toNat := rfl
  have e3 : b2.toNatClampNeg = b2.toInt.toNat := rfl
  have e4 : n.toNatClampNeg = n.toInt.toNat := rfl
  obtain ⟨h1, h2⟩ := h
  unfold PI
  rw [show b2.toNatClampNeg - a.toNatClampNeg - 1 = (b.toNatClampNeg - a.toNatClampNeg - 1) + 1 by omega]
  have eb : nI (a.toNatClampNeg + 1 + (b.toNatClampNeg - a.toNatClampNeg - 1)) = b := nI_b9 (by omega)
  show LikeN _ g (dstp od a (nI (a.toNatClampNeg + 1 + (b.toNatClampNeg - a.toNatClampNeg - 1))) _).1 ∧ z2 = (dstp od a (nI (a.toNatClampNeg + 1 + (b.toNatClampNeg - a.toNatClampNeg - 1))) _).2
  rw [eb]
  unfold dstp
  rw [← h2]
  refine ⟨?_, hz⟩
  rcases hg with ⟨c, e⟩ | ⟨c, e⟩
  · show LikeN _ g (if remT (drw z) < od then _ else _)
    rw [if_pos c, e]
    exact h1.lay (by omega) (by omega)
  · show LikeN _ g (if remT (drw z) < od then _ else _)
    rw [if_neg c, e]
    exact h1
theorem PI.out {n od z0 z a a2 b : Int32} {f : Nat → Int32} (h : PI n od z0 f z a b) (ha : 0 ≤ a.toInt) (hab : a.toInt < b.toInt) (hb : b.toInt = n.toInt) (h2 : a2.toInt = a.toInt + 1) : PO n od z0 f z a2 := by
  have e1 : a.toNatClampNeg = a.toInt.toNat := rfl
  have e2 : b.toNatClampNeg = b.toInt.toNat := rfl
  have e3 : a2.toNatClampNeg = a2.toInt.toNat := rfl
  have e4 : n.toNatClampNeg = n.toInt.toNat := rfl
  have ea : nI a.toNatClampNeg = a := nI_b9 (by omega)
  unfold PO
  rw [show a2.toNatClampNeg = a.toNatClampNeg + 1 by omega]
  show LikeN _ f (pin od (nI a.toNatClampNeg) (pout od n.toNatClampNeg z0 a.toNatClampNeg) (n.toNatClampNeg - 1 - a.toNatClampNeg)).1 ∧ z = (pin od (nI a.toNatClampNeg) (pout od n.toNatClampNeg z0 a.toNatClampNeg) (n.toNatClampNeg - 1 - a.toNatClampNeg)).2
  rw [ea, show n.toNatClampNeg - 1 - a.toNatClampNeg = b.toNatClampNeg - a.toNatClampNeg - 1 by omega]
  exact h
theorem sumB_s {f : Nat → Int32} {n n2 b p p2 : Int32} (h : n = sumB f p.toNatClampNeg) (hp : 0 ≤ p.toInt) (h2 : p2.toInt = p.toInt + 1) (e : n2 = n + b) (eb : b = bc (f p.toNatClampNeg)) : n2 = sumB f p2.toNatClampNeg := by
  have e1 : p.toNatClampNeg = p.toInt.toNat := rfl
  have e2 : p2.toNatClampNeg = p2.toInt.toNat := rfl
  rw [show p2.toNatClampNeg = p.toNatClampNeg + 1 by omega, e, eb, h]
  rfl
theorem deal_r {n od z0 z a m r : Int32} {f : Nat → Int32} (h : PO n od z0 f z a) (ha : a.toInt = n.toInt) (hm : m.toInt = n.toInt) (hr : r = sumB f m.toNatClampNeg / 2) (h0 : 0 ≤ n.toInt) (h1 : n.toInt ≤ 12) (h2 : 0 ≤ od.toInt) (h3 : od.toInt ≤ 10) : r = dealF n od z0 := by
  have ea : a = n := Int32.toInt_inj.mp ha
  have em : m = n := Int32.toInt_inj.mp hm
  subst ea em
  unfold dealF
  have z0' : (0 : Int32).toInt = 0 := by decide
  have z12 : (12 : Int32).toInt = 12 := by decide
  have z10 : (10 : Int32).toInt = 10 := by decide
  rw [if_neg (fun w => by have := (lz_lt _ _).mp w; omega), if_neg (fun w => by have := (lz_lt _ _).mp w; omega), if_neg (fun w => by have := (lz_lt _ _).mp w; omega), if_neg (fun w => by have := (lz_lt _ _).mp w; omega), hr, sumB_like h.1 _ (Nat.le_refl _)]
theorem deal_b {n od z0 : Int32} (h : n.toInt < 0 ∨ 12 < n.toInt ∨ od.toInt < 0 ∨ 10 < od.toInt) : (-2 : Int32) = dealF n od z0 := by
  unfold dealF
  have z0' : (0 : Int32).toInt = 0 := by decide
  have z12 : (12 : Int32).toInt = 12 := by decide
  have z10 : (10 : Int32).toInt = 10 := by decide
  split
  · rfl
  · split
    · rfl
    · split
      · rfl
      · split
        · rfl
        · rename_i a b c d
          have a := mt (lz_lt _ _).mpr a
          have b := mt (lz_lt _ _).mpr b
          have c := mt (lz_lt _ _).mpr c
          have d := mt (lz_lt _ _).mpr d
          omega
theorem PO.z {n od z0 z a : Int32} {f : Nat → Int32} (h : PO n od z0 f z a) (ha : a.toInt = n.toInt) : z.toInt = (pout od n.toNatClampNeg z0 n.toNatClampNeg).2.toInt := by
  rw [h.2, Int32.toInt_inj.mp ha]

set_option maxHeartbeats 4000000 in
set_option maxRecDepth 100000 in
theorem w_X12_lays_1 (l : Launch) (D : va_G) (cI cS : ClassId) (sz : Nat) (b : Nat → Nat) (L v0 : SU) (hL : TyL L) (hV : TyV v0) (x0 x1 : Int32) (px0 : Rg 0 11 x0) (px1 : Rg 0 11 x1) : Met l yX12_lays wsX12_lays ({ frames := 0, cells := 0, slots := 0, locals := 0 }) (PQ D cI cS (wM cI b L v0) sz [.ref (b 0), .int x0, .int x1, .int 1]) (QE (S := SU) D (wM cI b L v0) (wM cI b L) sz (fun u => TyV u ∧ u 1 = layI (v0 1) x0 x1)) 0 0 (va_A (wM cI b L v0) sz) := by
  refine Met.ofW (cc := cX12_lays) (maxL := 4) (ret := none) (by decide) rfl ?_
  intro p e s m args below meth c s₁ B hml hv
  obtain ⟨rfl, hsz, hP, hKK, hD0⟩ := hv
  have hx := B.exec
  have hb := B.bytes
  have hr := B.returns
  have hts := atoms_spec (ws := wsX12_lays) B.pre
  have hown : s.vm.findClass RX12 = some m.cls := findClass_of_methodNamed B.named
  have hlocks := B.notSynchronized
  have hK := hKK.1
  have hin12 : ∀ w ∈ wsX120, w ∈ wsX12_lays := by decide +kernel
  subst hsz
  have hD := hD0.self (sz := s.heap.size)
  obtain ⟨A, hAe⟩ : ∃ A, A = va_A (wM cI b L v0) s.heap.size := ⟨_, rfl⟩
  rw [← hAe] at hD
  have hA : ∀ q : Nat, s.heap.size ≤ q → A q := fun q h => by rw [hAe]; exact Or.inr h
  have hS : va_S A s.heap s.heap [] := va_S.rf
  have hl := lv_entry ([.ref (b 0), .int x0, .int x1, .int 1]) (n := 4) (Nat.le_of_ble_eq_true rfl)
  rw [lg_entry_eq]
  generalize (lg_sl ([.ref (b 0), .int x0, .int x1, .int 1]) ++ List.replicate (4 - (lg_sl ([.ref (b 0), .int x0, .int x1, .int 1])).length) Slot.unset).toArray = ls at hl ⊢
  have hl : lv_has ls 4 [(0, .ref (b 0)), (1, .int x0), (2, .int x1), (3, .int 1)] := hl
  obtain ⟨v, hv9⟩ : ∃ v : SU, v = v0 := ⟨_, rfl⟩
  rw [← hv9] at hP hD hV
  refine lv_aload_n hx hb dX12_lays_0 rfl (lv_at hl 0 rfl) ?_
  refine va_get (D := D) (ci := 12) (v := .ref (b 1)) (C := RX12) (T := TX12) (N := 24) hx hb hts hin12 hown hK hP 0 rfl rfl 2 (by decide) (hts (.fieldLink RX12 13 "MissedPointsModel" "near" "[I") (by decide +kernel)) (fun _ h9 => h9) rfl dX12_lays_1 ?_
  refine lv_iload_n hx hb dX12_lays_4 rfl (lv_at hl 1 rfl) ?_
  refine lv_aload_n hx hb dX12_lays_5 rfl (lv_at hl 0 rfl) ?_
  refine va_get (D := D) (ci := 12) (v := .ref (b 1)) (C := RX12) (T := TX12) (N := 24) hx hb hts hin12 hown hK hP 0 rfl rfl 2 (by decide) (hts (.fieldLink RX12 13 "MissedPointsModel" "near" "[I") (by decide +kernel)) (fun _ h9 => h9) rfl dX12_lays_6 ?_
  refine lv_iload_n hx hb dX12_lays_9 rfl (lv_at hl 1 rfl) ?_
  refine va_iald hx hb hK hP 1 0 rfl rfl (rg_in px0 (by decide) (by decide)) dX12_lays_10 ?_
  refine lz_top (y := (v 1 x0.toNatClampNeg)) rfl ?_
  refine lv_iconst (v := 1) hx hb dX12_lays_11 (by decide) ?_
  refine lv_iload_n hx hb dX12_lays_12 rfl (lv_at hl 2 rfl) ?_
  refine wk_ishl1 (f := 2048) hx hb dX12_lays_13 px1 (by decide) (fun r50025 hr50025 qr50025 => ?_)
  refine lv_iconst (v := (-1)) hx hb dX12_lays_14 (by decide) ?_
  refine lv_ixor hx hb dX12_lays_15 ?_
  refine wk_topP (P := fun r => r = r50025 ^^^ ((-1) : Int32)) rfl (fun r50026 qr50026 => ?_)
  refine wk_iandl hx hb dX12_lays_16 (hV.1 x0.toNatClampNeg) (by decide) (fun r50027 hr50027 qr50027 => ?_)
  refine lv_iload_n hx hb dX12_lays_17 rfl (lv_at hl 3 rfl) ?_
  refine lv_iload_n hx hb dX12_lays_18 rfl (lv_at hl 2 rfl) ?_
  refine wk_ishl1 (f := 2048) hx hb dX12_lays_19 px1 (by decide) (fun r50028 hr50028 qr50028 => ?_)
  refine wk_ior 12 (e1 := 1) (f := 4095) hx hb dX12_lays_20 hr50027 hr50028 (by decide) (fun r50029 hr50029 qr50029 => ?_)
  refine ms_1 hx hb hK hP hD hS hV rfl (rg_in px0 (by decide) (by decide)) (show Rg 0 4095 r50029 from rg_w hr50029 (by decide) (by decide)) dX12_lays_21 (fun v H locs hV ev50030 hP hD hS => ?_)
  refine lv_aload_n hx hb dX12_lays_22 rfl (lv_at hl 0 rfl) ?_
  refine va_get (D := D) (ci := 12) (v := .ref (b 1)) (C := RX12) (T := TX12) (N := 24) hx hb hts hin12 hown hK hP 0 rfl rfl 2 (by decide) (hts (.fieldLink RX12 13 "MissedPointsModel" "near" "[I") (by decide +kernel)) (fun _ h9 => h9) rfl dX12_lays_23 ?_
  refine lv_iload_n hx hb dX12_lays_26 rfl (lv_at hl 2 rfl) ?_
  refine lv_aload_n hx hb dX12_lays_27 rfl (lv_at hl 0 rfl) ?_
  refine va_get (D := D) (ci := 12) (v := .ref (b 1)) (C := RX12) (T := TX12) (N := 24) hx hb hts hin12 hown hK hP 0 rfl rfl 2 (by decide) (hts (.fieldLink RX12 13 "MissedPointsModel" "near" "[I") (by decide +kernel)) (fun _ h9 => h9) rfl dX12_lays_28 ?_
  refine lv_iload_n hx hb dX12_lays_31 rfl (lv_at hl 2 rfl) ?_
  refine va_iald hx hb hK hP 1 0 rfl rfl (rg_in px1 (by decide) (by decide)) dX12_lays_32 ?_
  refine lz_top (y := (v 1 x1.toNatClampNeg)) rfl ?_
  refine lv_iconst (v := 1) hx hb dX12_lays_33 (by decide) ?_
  refine lv_iload_n hx hb dX12_lays_34 rfl (lv_at hl 1 rfl) ?_
  refine wk_ishl1 (f := 2048) hx hb dX12_lays_35 px0 (by decide) (fun r50032 hr50032 qr50032 => ?_)
  refine lv_iconst (v := (-1)) hx hb dX12_lays_36 (by decide) ?_
  refine lv_ixor hx hb dX12_lays_37 ?_
  refine wk_topP (P := fun r => r = r50032 ^^^ ((-1) : Int32)) rfl (fun r50033 qr50033 => ?_)
  refine wk_iandl hx hb dX12_lays_38 (hV.1 x1.toNatClampNeg) (by decide) (fun r50034 hr50034 qr50034 => ?_)
  refine lv_iload_n hx hb dX12_lays_39 rfl (lv_at hl 3 rfl) ?_
  refine lv_iload_n hx hb dX12_lays_40 rfl (lv_at hl 1 rfl) ?_
  refine wk_ishl1 (f := 2048) hx hb dX12_lays_41 px0 (by decide) (fun r50035 hr50035 qr50035 => ?_)
  refine wk_ior 12 (e1 := 1) (f := 4095) hx hb dX12_lays_42 hr50034 hr50035 (by decide) (fun r50036 hr50036 qr50036 => ?_)
  refine ms_1 hx hb hK hP hD hS hV rfl (rg_in px1 (by decide) (by decide)) (show Rg 0 4095 r50036 from rg_w hr50036 (by decide) (by decide)) dX12_lays_43 (fun v H locs hV ev50037 hP hD hS => ?_)
  subst hAe
  exact W.vret hx hb hr (fun t ht hW => ⟨⟨v, rfl, ⟨hV, (by rw [← hv9]; exact lay_of ev50030 ev50037 (by rw [qr50029, qr50027, qr50026, qr50025, qr50028]) (by rw [qr50036, qr50034, qr50033, qr50032, qr50035]))⟩, by rw [ht]; exact hP, hD⟩, hS.F ht⟩) hS.2.2 dX12_lays_44
set_option maxHeartbeats 4000000 in
set_option maxRecDepth 100000 in
theorem w_X12_draw_D (l : Launch) (D : va_G) (cI cS : ClassId) (sz : Nat) (b : Nat → Nat) (l_m l_z l_tp l_hs l_to l_tk l_wo : Int32) (l_so l_sz l_kp : Nat → Int32) (v0 : SU) (hL : TyL (mkM l_m l_z l_tp l_hs l_to l_tk l_wo l_so l_sz l_kp)) (hV : TyV v0) : Met l yX12_draw wsX12_draw ({ frames := 0, cells := 0, slots := 0, locals := 0 }) (PQ D cI cS (wM cI b (mkM l_m l_z l_tp l_hs l_to l_tk l_wo l_so l_sz l_kp) v0) sz [.ref (b 0)]) (QF (S := Int32 × SU) D (wM cI b (mkM l_m l_z l_tp l_hs l_to l_tk l_wo l_so l_sz l_kp) v0) (fun q => wM cI b (mkM l_m q.1 l_tp l_hs l_to l_tk l_wo l_so l_sz l_kp) q.2) sz (fun r q => TyV q.2 ∧ Rg (-2147483648) 2147483647 r ∧ (q.1 = zsN l_z) ∧ (r = drw l_z) ∧ (q.2 1 = v0 1))) 0 0 (va_A (wM cI b (mkM l_m l_z l_tp l_hs l_to l_tk l_wo l_so l_sz l_kp) v0) sz) := by
  refine Met.ofW (cc := cX12_draw) (maxL := 1) (ret := (some .int)) (by decide) rfl ?_
  intro p e s m args below meth c s₁ B hml hv
  obtain ⟨rfl, hsz, hP, hKK, hD0⟩ := hv
  have hx := B.exec
  have hb := B.bytes
  have hr := B.returns
  have hts := atoms_spec (ws := wsX12_draw) B.pre
  have hown : s.vm.findClass RX12 = some m.cls := findClass_of_methodNamed B.named
  have hlocks := B.notSynchronized
  have hK := hKK.1
  have hin12 : ∀ w ∈ wsX120, w ∈ wsX12_draw := by decide +kernel
  subst hsz
  have hD := hD0.self (sz := s.heap.size)
  obtain ⟨A, hAe⟩ : ∃ A, A = va_A (wM cI b (mkM l_m l_z l_tp l_hs l_to l_tk l_wo l_so l_sz l_kp) v0) s.heap.size := ⟨_, rfl⟩
  rw [← hAe] at hD
  have hA : ∀ q : Nat, s.heap.size ≤ q → A q := fun q h => by rw [hAe]; exact Or.inr h
  have hS : va_S A s.heap s.heap [] := va_S.rf
  have hl := lv_entry ([.ref (b 0)]) (n := 1) (Nat.le_of_ble_eq_true rfl)
  rw [lg_entry_eq]
  generalize (lg_sl ([.ref (b 0)]) ++ List.replicate (1 - (lg_sl ([.ref (b 0)])).length) Slot.unset).toArray = ls at hl ⊢
  have hl : lv_has ls 1 [(0, .ref (b 0))] := hl
  obtain ⟨v, hv9⟩ : ∃ v : SU, v = v0 := ⟨_, rfl⟩
  rw [← hv9] at hP hD hV
  have p_m : Rg 0 12 l_m := hL.1
  have p_tp : Rg 0 120 l_tp := hL.2.1
  have p_so : Ar (-1) 1 l_so := hL.2.2.1
  have p_sz : Ar 0 40 l_sz := hL.2.2.2.1
  have p_kp : Kp l_kp := hL.2.2.2.2.1
  have p_to : Rg 0 120 l_to := hL.2.2.2.2.2
  refine lv_aload_n hx hb dX12_draw_0 rfl (lv_at hl 0 rfl) ?_
  refine lv_aload_n hx hb dX12_draw_1 rfl (lv_at hl 0 rfl) ?_
  refine va_get (D := D) (ci := 12) (v := .int l_z) (C := RX12) (T := TX12) (N := 24) hx hb hts hin12 hown hK hP 0 rfl rfl 1 (by decide) (hts (.fieldLink RX12 7 "MissedPointsModel" "z" "I") (by decide +kernel)) (fun _ h9 => h9) rfl dX12_draw_2 ?_
  refine lv_ldc hx hb hown (hts (.constant RX12 215 (1103515245)) (by decide +kernel)) dX12_draw_5 ?_
  refine lv_imul hx hb dX12_draw_7 ?_
  refine wk_topP (P := fun r => r = l_z * (1103515245 : Int32)) rfl (fun r50041 qr50041 => ?_)
  refine lv_sipush (v := 12345) hx hb dX12_draw_8 (by decide) ?_
  refine lv_iadd hx hb dX12_draw_11 ?_
  refine wk_topP (P := fun r => r = r50041 + (12345 : Int32)) rfl (fun r50042 qr50042 => ?_)
  refine va_put (D := D) (ci := 12) (v := .int r50042) (ty := .int) (C := RX12) (T := TX12) (N := 24) hx hb hts hin12 tyX12 tyX12_ok nmX12 hown hK hP hD hS 0 rfl rfl 1 (by decide) (hts (.fieldLink RX12 7 "MissedPointsModel" "z" "I") (by decide +kernel)) (fun _ h9 => h9) rfl (by decide +kernel) rfl rfl (Nat.le_of_ble_eq_true rfl) dX12_draw_12 (fun H locs hP hD hS => ?_)
  have hP : va_P D cls (wM cI b (mkM l_m r50042 l_tp l_hs l_to l_tk l_wo l_so l_sz l_kp) v) H := hP
  have hD : va_D A (wM cI b (mkM l_m r50042 l_tp l_hs l_to l_tk l_wo l_so l_sz l_kp) v) := hD
  refine lv_aload_n hx hb dX12_draw_15 rfl (lv_at hl 0 rfl) ?_
  refine va_get (D := D) (ci := 12) (v := .int r50042) (C := RX12) (T := TX12) (N := 24) hx hb hts hin12 hown hK hP 0 rfl rfl 1 (by decide) (hts (.fieldLink RX12 7 "MissedPointsModel" "z" "I") (by decide +kernel)) (fun _ h9 => h9) rfl dX12_draw_16 ?_
  refine lv_bipush (v := 16) hx hb dX12_draw_19 (by decide) ?_
  refine lv_iushr hx hb dX12_draw_21 rfl ?_
  refine wk_topP (P := fun r => r = (Int32.toUInt32 r50042 >>> (Int32.toUInt32 16 &&& Int32.toUInt32 31)).toInt32) rfl (fun r50043 qr50043 => ?_)
  subst hAe
  exact W.iret (v := r50043) hx hb hr (fun t ht hW => ⟨⟨_, (r50042, v), rfl, ⟨hV, (rg_any r50043), (by rw [qr50042, qr50041]; rfl), (by rw [qr50043, qr50042, qr50041]; rfl), (by rw [hv9])⟩, by rw [ht]; exact hP, hD⟩, hS.F ht⟩) hS.2.2 dX12_draw_22
set_option maxHeartbeats 4000000 in
set_option maxRecDepth 100000 in
theorem w_X12_deals_D (l : Launch) (D : va_G) (cI cS : ClassId) (sz : Nat) (b : Nat → Nat) (l_m l_z l_tp l_hs l_to l_tk l_wo : Int32) (l_so l_sz l_kp : Nat → Int32) (v0 : SU) (hL : TyL (mkM l_m l_z l_tp l_hs l_to l_tk l_wo l_so l_sz l_kp)) (hV : TyV v0) (x0 x1 : Int32) (px0 : Rg 0 12 x0) : Met l yX12_deals wsX12_deals ({ frames := 1, cells := 0, slots := 0, locals := 40 }) (PQ D cI cS (wM cI b (mkM l_m l_z l_tp l_hs l_to l_tk l_wo l_so l_sz l_kp) v0) sz [.ref (b 0), .int x0, .int x1]) (QE (S := Int32 × Int32 × SU) D (wM cI b (mkM l_m l_z l_tp l_hs l_to l_tk l_wo l_so l_sz l_kp) v0) (fun q => wM cI b (mkM q.1 q.2.1 l_tp l_hs l_to l_tk l_wo l_so l_sz l_kp) q.2.2) sz (fun q => TyV q.2.2 ∧ Rg 0 12 q.1 ∧ (q.1.toInt = x0.toInt) ∧ (∃ a9, PO x0 x1 l_z (q.2.2 1) q.2.1 a9 ∧ a9.toInt = x0.toInt))) 0 0 (va_A (wM cI b (mkM l_m l_z l_tp l_hs l_to l_tk l_wo l_so l_sz l_kp) v0) sz) := by
  refine Met.ofW (cc := cX12_deals) (maxL := 5) (ret := none) (by decide) rfl ?_
  intro p e s m args below meth c s₁ B hml hv
  obtain ⟨rfl, hsz, hP, hKK, hD0⟩ := hv
  have hx := B.exec
  have hb := B.bytes
  have hr := B.returns
  have hts := atoms_spec (ws := wsX12_deals) B.pre
  have hown : s.vm.findClass RX12 = some m.cls := findClass_of_methodNamed B.named
  have hlocks := B.notSynchronized
  have hK := hKK.1
  have hin12 : ∀ w ∈ wsX120, w ∈ wsX12_deals := by decide +kernel
  subst hsz
  have hD := hD0.self (sz := s.heap.size)
  obtain ⟨A, hAe⟩ : ∃ A, A = va_A (wM cI b (mkM l_m l_z l_tp l_hs l_to l_tk l_wo l_so l_sz l_kp) v0) s.heap.size := ⟨_, rfl⟩
  rw [← hAe] at hD
  have hA : ∀ q : Nat, s.heap.size ≤ q → A q := fun q h => by rw [hAe]; exact Or.inr h
  have hS : va_S A s.heap s.heap [] := va_S.rf
  have hl := lv_entry ([.ref (b 0), .int x0, .int x1]) (n := 5) (Nat.le_of_ble_eq_true rfl)
  rw [lg_entry_eq]
  generalize (lg_sl ([.ref (b 0), .int x0, .int x1]) ++ List.replicate (5 - (lg_sl ([.ref (b 0), .int x0, .int x1])).length) Slot.unset).toArray = ls at hl ⊢
  have hl : lv_has ls 5 [(0, .ref (b 0)), (1, .int x0), (2, .int x1)] := hl
  obtain ⟨v, hv9⟩ : ∃ v : SU, v = v0 := ⟨_, rfl⟩
  rw [← hv9] at hP hD hV
  have p_m : Rg 0 12 l_m := hL.1
  have p_tp : Rg 0 120 l_tp := hL.2.1
  have p_so : Ar (-1) 1 l_so := hL.2.2.1
  have p_sz : Ar 0 40 l_sz := hL.2.2.2.1
  have p_kp : Kp l_kp := hL.2.2.2.2.1
  have p_to : Rg 0 120 l_to := hL.2.2.2.2.2
  have lp27 : ∀ (n27 : Nat) (y27_l3 : Int32) (y27_kz : Int32) (v : SU) (H : Heap) (locs : List Loc) (ls : Array Slot), Rg 0 12 x0 → Rg 0 12 y27_l3 → Rg 0 12 x0 → (PO x0 x1 l_z (v 1) y27_kz y27_l3 ∧ y27_l3.toInt ≤ x0.toInt) → TyV v → va_P D cls (wM cI b (mkM x0 y27_kz l_tp l_hs l_to l_tk l_wo l_so l_sz l_kp) v) H → va_D A (wM cI b (mkM x0 y27_kz l_tp l_hs l_to l_tk l_wo l_so l_sz l_kp) v) → va_S A s.heap H locs → lv_has ls 5 [(0, .ref (b 0)), (1, .int x0), (2, .int x1), (3, .int y27_l3)] → 12 - y27_l3.toInt < (n27 : Int) → W p l e (headSpec wsX12_deals ({ frames := 1, cells := 0, slots := 0, locals := 40 })).room s m ([.ref (b 0), .int x0, .int x1]).toArray below meth c H locs 0 0 (MQ below (QE (S := Int32 × Int32 × SU) D (wM cI b (mkM l_m l_z l_tp l_hs l_to l_tk l_wo l_so l_sz l_kp) v0) (fun q => wM cI b (mkM q.1 q.2.1 l_tp l_hs l_to l_tk l_wo l_so l_sz l_kp) q.2.2) s.heap.size (fun q => TyV q.2.2 ∧ Rg 0 12 q.1 ∧ (q.1.toInt = x0.toInt) ∧ (∃ a9, PO x0 x1 l_z (q.2.2 1) q.2.1 a9 ∧ a9.toInt = x0.toInt))) ([.ref (b 0), .int x0, .int x1]).toArray s 0 0 (va_A (wM cI b (mkM l_m l_z l_tp l_hs l_to l_tk l_wo l_so l_sz l_kp) v0) s.heap.size)) (F0 m 27 ls []) := by
    intro n27
    induction n27 with
    | zero =>
      intro y27_l3 y27_kz v H locs ls g27_l1 g27_l3 g27_km x27_0 hV hP hD hS hl hm27
      exact absurd rfl (me_z g27_l3 hm27)
    | succ n27 ih27 =>
      intro y27_l3 y27_kz v H locs ls g27_l1 g27_l3 g27_km x27_0 hV hP hD hS hl hm27
      have lp37 : ∀ (n37 : Nat) (y37_l4 : Int32) (y37_kz : Int32) (v : SU) (H : Heap) (locs : List Loc) (ls : Array Slot), Rg 1 12 x0 → Rg 0 11 y27_l3 → Rg 1 12 y37_l4 → Rg 1 12 x0 → (PI x0 x1 l_z (v 1) y37_kz y27_l3 y37_l4 ∧ y27_l3.toInt < y37_l4.toInt ∧ y37_l4.toInt ≤ x0.toInt) → TyV v → va_P D cls (wM cI b (mkM x0 y37_kz l_tp l_hs l_to l_tk l_wo l_so l_sz l_kp) v) H → va_D A (wM cI b (mkM x0 y37_kz l_tp l_hs l_to l_tk l_wo l_so l_sz l_kp) v) → va_S A s.heap H locs → lv_has ls 5 [(0, .ref (b 0)), (1, .int x0), (2, .int x1), (3, .int y27_l3), (4, .int y37_l4)] → 12 - y37_l4.toInt < (n37 : Int) → W p l e (headSpec wsX12_deals ({ frames := 1, cells := 0, slots := 0, locals := 40 })).room s m ([.ref (b 0), .int x0, .int x1]).toArray below meth c H locs 0 0 (MQ below (QE (S := Int32 × Int32 × SU) D (wM cI b (mkM l_m l_z l_tp l_hs l_to l_tk l_wo l_so l_sz l_kp) v0) (fun q => wM cI b (mkM q.1 q.2.1 l_tp l_hs l_to l_tk l_wo l_so l_sz l_kp) q.2.2) s.heap.size (fun q => TyV q.2.2 ∧ Rg 0 12 q.1 ∧ (q.1.toInt = x0.toInt) ∧ (∃ a9, PO x0 x1 l_z (q.2.2 1) q.2.1 a9 ∧ a9.toInt = x0.toInt))) ([.ref (b 0), .int x0, .int x1]).toArray s 0 0 (va_A (wM cI b (mkM l_m l_z l_tp l_hs l_to l_tk l_wo l_so l_sz l_kp) v0) s.heap.size)) (F0 m 37 ls []) := by
        intro n37
        induction n37 with
        | zero =>
          intro y37_l4 y37_kz v H locs ls g37_l1 g37_l3 g37_l4 g37_km x37_0 hV hP hD hS hl hm37
          exact absurd rfl (me_z g37_l4 hm37)
        | succ n37 ih37 =>
          intro y37_l4 y37_kz v H locs ls g37_l1 g37_l3 g37_l4 g37_km x37_0 hV hP hD hS hl hm37
          refine lv_iload hx hb dX12_deals_37 (lv_at hl 4 rfl) ?_
          refine lv_iload_n hx hb dX12_deals_39 rfl (lv_at hl 1 rfl) ?_
          refine lv_icmp_ge (tgt := 68) hx hb dX12_deals_40 (by decide) (fun c50234 => ?_) (fun c50234 => ?_)
          · refine wk_iinc (lv' := fun r => [(3, .int r), (0, .ref (b 0)), (1, .int x0), (2, .int x1), (4, .int y37_l4)]) (e1 := 1) (f := 12) hx hb dX12_deals_68 hl (k := 3) rfl (by decide) g37_l3 (by decide) (fun _ => rfl) (fun r50235 ls hr50235 er50235 hl => ?_)
            refine lv_goto (tgt := 27) hx hb dX12_deals_71 (by decide) ?_
            exact ih27 r50235 y37_kz v _ _ ls (show Rg 0 12 x0 from rg_w g37_l1 (by decide) (by decide)) (show Rg 0 12 r50235 from rg_w hr50235 (by decide) (by decide)) (show Rg 0 12 x0 from rg_w g37_km (by decide) (by decide)) (by have y90 : x0.toInt ≤ y37_l4.toInt := (lz_le _ _).mp c50234; have y91 : Rg 1 12 x0 := g37_l1; have y92 : Rg 1 12 r50235 := hr50235; have y93 : Rg 1 12 y37_l4 := g37_l4; have y94 : Rg 1 12 x0 := g37_km; have y95 : Rg 0 120 l_tp := p_tp; have y96 : Rg 0 120 l_to := p_to; have y9c7 : (0 : Int32).toInt = 0 := (by decide); have y9c8 : (1 : Int32).toInt = 1 := (by decide); exact ⟨PI.out (b := y37_l4) x37_0.1 g27_l3.1 (by omega) (by omega) er50235, by omega⟩) hV hP hD hS (lv_sub (l' := [(0, .ref (b 0)), (1, .int x0), (2, .int x1), (3, .int r50235)]) hl [1, 2, 3, 0] rfl) (me_up hm27 er50235 (by decide))
          · have g50236 : Rg 2 12 x0 := rg_ltr g37_l4 g37_l1 (rg_nle c50234) (by decide)
            have g50237 : Rg 1 11 y37_l4 := rg_ltl g37_l4 g37_l1 (rg_nle c50234) (by decide)
            refine lv_aload_n hx hb dX12_deals_43 rfl (lv_at hl 0 rfl) ?_
            refine wk_qi (S := Int32 × SU) (fun q => wM cI b (mkM x0 q.1 l_tp l_hs l_to l_tk l_wo l_so l_sz l_kp) q.2) (y37_kz, v) (As := []) (rest := []) ⟨hx, hb, hml, hown, hts⟩ (w_X12_draw_D l D cI cS _ b x0 y37_kz l_tp l_hs l_to l_tk l_wo l_so l_sz l_kp v (show TyL (mkM x0 y37_kz l_tp l_hs l_to l_tk l_wo l_so l_sz l_kp) from ⟨(show Rg 0 12 x0 from rg_w g50236 (by decide) (by decide)), p_tp, p_so, p_sz, p_kp, p_to⟩) hV) hKK hP hD hS hA 0 (ci := 12) rfl rfl (cwV 0 hts gX12_deals_X12_draw rfl rfl rfl (by decide +kernel) ⟨Nat.le_of_ble_eq_true rfl, Nat.le_of_ble_eq_true rfl⟩) rfl hl.1 rfl (Nat.le_of_ble_eq_true rfl) dX12_deals_44 ⟨Nat.le_of_ble_eq_true rfl, Nat.le_of_ble_eq_true rfl⟩ (fun r50238 q9 H locs hr50238 hP hD hS => ?_)
            obtain ⟨r50239, v⟩ := q9
            have hr50238 : TyV v ∧ Rg (-2147483648) 2147483647 r50238 ∧ (r50239 = zsN y37_kz) ∧ (r50238 = drw y37_kz) ∧ (v 1 = _) := hr50238
            have hV := hr50238.1
            have hP : va_P D cls (wM cI b (mkM x0 r50239 l_tp l_hs l_to l_tk l_wo l_so l_sz l_kp) v) H := hP
            have hD : va_D A (wM cI b (mkM x0 r50239 l_tp l_hs l_to l_tk l_wo l_so l_sz l_kp) v) := hD
            have kr50238_0 := hr50238.2.2.1
            have kr50238_1 := hr50238.2.2.2.1
            have kr50238_2 := hr50238.2.2.2.2
            refine lv_bipush (v := 10) hx hb dX12_deals_47 (by decide) ?_
            refine lv_irem hx hb dX12_deals_49 (by decide) ?_
            refine wk_topP (P := fun r => r = remT r50238) rfl (fun r50240 qr50240 => ?_)
            refine lv_iload_n hx hb dX12_deals_50 rfl (lv_at hl 2 rfl) ?_
            refine lv_icmp_ge (tgt := 62) hx hb dX12_deals_51 (by decide) (fun c50241 => ?_) (fun c50241 => ?_)
            · refine wk_iinc (lv' := fun r => [(4, .int r), (0, .ref (b 0)), (1, .int x0), (2, .int x1), (3, .int y27_l3)]) (e1 := 2) (f := 12) hx hb dX12_deals_62 hl (k := 4) rfl (by decide) g50237 (by decide) (fun _ => rfl) (fun r50242 ls hr50242 er50242 hl => ?_)
              refine lv_goto (tgt := 37) hx hb dX12_deals_65 (by decide) ?_
              exact ih37 r50242 r50239 v _ _ ls (show Rg 1 12 x0 from rg_w g50236 (by decide) (by decide)) g37_l3 (show Rg 1 12 r50242 from rg_w hr50242 (by decide) (by decide)) (show Rg 1 12 x0 from rg_w g50236 (by decide) (by decide)) (by have y90 : y37_l4.toInt < x0.toInt := (lz_lt _ _).mp (rg_nle c50234); have y91 : x1.toInt ≤ r50240.toInt := (lz_le _ _).mp c50241; have y92 : Rg 2 12 x0 := g50236; have y93 : Rg 1 11 y37_l4 := g50237; have y94 : Rg 2 12 x0 := g50236; have y95 : Rg 0 11 y27_l3 := g37_l3; have y96 : Rg 2 12 r50242 := hr50242; have y97 : Rg 2 12 x0 := g50236; have y98 : Rg 0 120 l_tp := p_tp; have y99 : Rg 0 120 l_to := p_to; have y9c10 : (0 : Int32).toInt = 0 := (by decide); have y9c11 : (1 : Int32).toInt = 1 := (by decide); exact ⟨PI.step x37_0.1 g27_l3.1 (by omega) (by omega) er50242 kr50238_0 (Or.inr ⟨fun w => absurd ((lz_lt _ _).mp (show r50240 < x1 by rw [qr50240, kr50238_1]; exact w)) (by have z8 := (lz_le _ _).mp c50241; omega), kr50238_2⟩), by omega, by omega⟩) hV hP hD hS (lv_sub (l' := [(0, .ref (b 0)), (1, .int x0), (2, .int x1), (3, .int y27_l3), (4, .int r50242)]) hl [1, 2, 3, 4, 0] rfl) (me_up hm37 er50242 (by decide))
            · refine lv_aload_n hx hb dX12_deals_54 rfl (lv_at hl 0 rfl) ?_
              refine lv_iload_n hx hb dX12_deals_55 rfl (lv_at hl 3 rfl) ?_
              refine lv_iload hx hb dX12_deals_56 (lv_at hl 4 rfl) ?_
              refine lv_iconst (v := 1) hx hb dX12_deals_58 (by decide) ?_
              refine wk_qv (wM cI b (mkM x0 r50239 l_tp l_hs l_to l_tk l_wo l_so l_sz l_kp)) v (As := [.int y27_l3, .int y37_l4, .int 1]) (rest := []) ⟨hx, hb, hml, hown, hts⟩ (w_X12_lays_1 l D cI cS _ b (mkM x0 r50239 l_tp l_hs l_to l_tk l_wo l_so l_sz l_kp) v (show TyL (mkM x0 r50239 l_tp l_hs l_to l_tk l_wo l_so l_sz l_kp) from ⟨(show Rg 0 12 x0 from rg_w g50236 (by decide) (by decide)), p_tp, p_so, p_sz, p_kp, p_to⟩) hV y27_l3 y37_l4 g37_l3 (show Rg 0 11 y37_l4 from rg_w g50237 (by decide) (by decide))) hKK hP hD hS hA 0 (ci := 12) rfl rfl (cwV 3 hts gX12_deals_X12_lays rfl rfl rfl (by decide +kernel) ⟨Nat.le_of_ble_eq_true rfl, Nat.le_of_ble_eq_true rfl⟩) rfl hl.1 rfl (Nat.le_of_ble_eq_true rfl) dX12_deals_59 ⟨Nat.le_of_ble_eq_true rfl, Nat.le_of_ble_eq_true rfl⟩ (fun v H locs hr50243 hP hD hS => ?_)
              have hV := hr50243.1
              refine wk_iinc (lv' := fun r => [(4, .int r), (0, .ref (b 0)), (1, .int x0), (2, .int x1), (3, .int y27_l3)]) (e1 := 2) (f := 12) hx hb dX12_deals_62 hl (k := 4) rfl (by decide) g50237 (by decide) (fun _ => rfl) (fun r50244 ls hr50244 er50244 hl => ?_)
              refine lv_goto (tgt := 37) hx hb dX12_deals_65 (by decide) ?_
              exact ih37 r50244 r50239 v _ _ ls (show Rg 1 12 x0 from rg_w g50236 (by decide) (by decide)) g37_l3 (show Rg 1 12 r50244 from rg_w hr50244 (by decide) (by decide)) (show Rg 1 12 x0 from rg_w g50236 (by decide) (by decide)) (by have y90 : y37_l4.toInt < x0.toInt := (lz_lt _ _).mp (rg_nle c50234); have y91 : r50240.toInt < x1.toInt := (lz_lt _ _).mp (rg_nle c50241); have y92 : Rg 2 12 x0 := g50236; have y93 : Rg 1 11 y37_l4 := g50237; have y94 : Rg 2 12 x0 := g50236; have y95 : Rg 0 11 y27_l3 := g37_l3; have y96 : Rg 2 12 r50244 := hr50244; have y97 : Rg 2 12 x0 := g50236; have y98 : Rg 0 120 l_tp := p_tp; have y99 : Rg 0 120 l_to := p_to; have y9c10 : (0 : Int32).toInt = 0 := (by decide); have y9c11 : (1 : Int32).toInt = 1 := (by decide); exact ⟨PI.step x37_0.1 g27_l3.1 (by omega) (by omega) er50244 kr50238_0 (Or.inl ⟨by rw [← kr50238_1, ← qr50240]; exact rg_nle c50241, by rw [hr50243.2, kr50238_2]⟩), by omega, by omega⟩) hV hP hD hS (lv_sub (l' := [(0, .ref (b 0)), (1, .int x0), (2, .int x1), (3, .int y27_l3), (4, .int r50244)]) hl [1, 2, 3, 4, 0] rfl) (me_up hm37 er50244 (by decide))
      refine lv_iload_n hx hb dX12_deals_27 rfl (lv_at hl 3 rfl) ?_
      refine lv_iload_n hx hb dX12_deals_28 rfl (lv_at hl 1 rfl) ?_
      refine lv_icmp_ge (tgt := 74) hx hb dX12_deals_29 (by decide) (fun c50245 => ?_) (fun c50245 => ?_)
      · subst hAe
        exact W.vret hx hb hr (fun t ht hW => ⟨⟨(x0, y27_kz, v), rfl, ⟨hV, g27_km, (show x0.toInt = x0.toInt from by have y90 : x0.toInt ≤ y27_l3.toInt := (lz_le _ _).mp c50245; have y91 : Rg 0 12 x0 := g27_l1; have y92 : Rg 0 12 y27_l3 := g27_l3; have y93 : Rg 0 12 x0 := g27_km; have y94 : Rg 0 120 l_tp := p_tp; have y95 : Rg 0 120 l_to := p_to; have y9c6 : (0 : Int32).toInt = 0 := (by decide); have y9c7 : (1 : Int32).toInt = 1 := (by decide); omega), ⟨y27_l3, x27_0.1, by have y90 : x0.toInt ≤ y27_l3.toInt := (lz_le _ _).mp c50245; have y91 : Rg 0 12 x0 := g27_l1; have y92 : Rg 0 12 y27_l3 := g27_l3; have y93 : Rg 0 12 x0 := g27_km; have y94 : Rg 0 120 l_tp := p_tp; have y95 : Rg 0 120 l_to := p_to; have y9c6 : (0 : Int32).toInt = 0 := (by decide); have y9c7 : (1 : Int32).toInt = 1 := (by decide); omega⟩⟩, by rw [ht]; exact hP, hD⟩, hS.F ht⟩) hS.2.2 dX12_deals_74
      · have g50246 : Rg 1 12 x0 := rg_ltr g27_l3 g27_l1 (rg_nle c50245) (by decide)
        have g50247 : Rg 0 11 y27_l3 := rg_ltl g27_l3 g27_l1 (rg_nle c50245) (by decide)
        refine lv_iload_n hx hb dX12_deals_32 rfl (lv_at hl 3 rfl) ?_
        refine lv_iconst (v := 1) hx hb dX12_deals_33 (by decide) ?_
        refine wk_iadd (e1 := 1) (f := 12) hx hb dX12_deals_34 g50247 (by decide : Rg 1 1 (1 : Int32)) (by decide) (fun r50248 hr50248 er50248 qr50248 => ?_)
        refine lv_istore (lv' := [(4, .int r50248), (0, .ref (b 0)), (1, .int x0), (2, .int x1), (3, .int y27_l3)]) hx hb dX12_deals_35 hl (by decide) rfl (fun ls hl => ?_)
        exact lp37 12 r50248 y27_kz v _ _ ls g50246 g50247 hr50248 g50246 (by have y90 : y27_l3.toInt < x0.toInt := (lz_lt _ _).mp (rg_nle c50245); have y91 : Rg 1 12 x0 := g50246; have y92 : Rg 0 11 y27_l3 := g50247; have y93 : Rg 1 12 x0 := g50246; have y94 : Rg 0 11 y27_l3 := g50247; have y95 : Rg 1 12 r50248 := hr50248; have y96 : Rg 1 12 x0 := g50246; have y97 : Rg 0 120 l_tp := p_tp; have y98 : Rg 0 120 l_to := p_to; have y9c9 : (0 : Int32).toInt = 0 := (by decide); have y9c10 : (1 : Int32).toInt = 1 := (by decide); exact ⟨PI.zero x27_0.1 g27_l3.1 er50248, by omega, by omega⟩) hV hP hD hS (lv_sub (l' := [(0, .ref (b 0)), (1, .int x0), (2, .int x1), (3, .int y27_l3), (4, .int r50248)]) hl [1, 2, 3, 4, 0] rfl) (me_i hr50248 (by decide))
  have lp7 : ∀ (n7 : Nat) (y7_l3 : Int32) (v : SU) (H : Heap) (locs : List Loc) (ls : Array Slot), Rg 0 12 x0 → Rg 0 12 y7_l3 → Rg 0 12 x0 → (∀ j, j < y7_l3.toNatClampNeg → v 1 j = 0) → TyV v → va_P D cls (wM cI b (mkM x0 l_z l_tp l_hs l_to l_tk l_wo l_so l_sz l_kp) v) H → va_D A (wM cI b (mkM x0 l_z l_tp l_hs l_to l_tk l_wo l_so l_sz l_kp) v) → va_S A s.heap H locs → lv_has ls 5 [(0, .ref (b 0)), (1, .int x0), (2, .int x1), (3, .int y7_l3)] → 12 - y7_l3.toInt < (n7 : Int) → W p l e (headSpec wsX12_deals ({ frames := 1, cells := 0, slots := 0, locals := 40 })).room s m ([.ref (b 0), .int x0, .int x1]).toArray below meth c H locs 0 0 (MQ below (QE (S := Int32 × Int32 × SU) D (wM cI b (mkM l_m l_z l_tp l_hs l_to l_tk l_wo l_so l_sz l_kp) v0) (fun q => wM cI b (mkM q.1 q.2.1 l_tp l_hs l_to l_tk l_wo l_so l_sz l_kp) q.2.2) s.heap.size (fun q => TyV q.2.2 ∧ Rg 0 12 q.1 ∧ (q.1.toInt = x0.toInt) ∧ (∃ a9, PO x0 x1 l_z (q.2.2 1) q.2.1 a9 ∧ a9.toInt = x0.toInt))) ([.ref (b 0), .int x0, .int x1]).toArray s 0 0 (va_A (wM cI b (mkM l_m l_z l_tp l_hs l_to l_tk l_wo l_so l_sz l_kp) v0) s.heap.size)) (F0 m 7 ls []) := by
    intro n7
    induction n7 with
    | zero =>
      intro y7_l3 v H locs ls g7_l1 g7_l3 g7_km x7_0 hV hP hD hS hl hm7
      exact absurd rfl (me_z g7_l3 hm7)
    | succ n7 ih7 =>
      intro y7_l3 v H locs ls g7_l1 g7_l3 g7_km x7_0 hV hP hD hS hl hm7
      refine lv_iload_n hx hb dX12_deals_7 rfl (lv_at hl 3 rfl) ?_
      refine lv_iload_n hx hb dX12_deals_8 rfl (lv_at hl 1 rfl) ?_
      refine lv_icmp_ge (tgt := 25) hx hb dX12_deals_9 (by decide) (fun c50249 => ?_) (fun c50249 => ?_)
      · refine lv_iconst (v := 0) hx hb dX12_deals_25 (by decide) ?_
        refine lv_istore_n (lv' := [(3, .int 0), (0, .ref (b 0)), (1, .int x0), (2, .int x1)]) hx hb dX12_deals_26 rfl hl (by decide) rfl (fun ls hl => ?_)
        exact lp27 13 (0 : Int32) l_z v _ _ ls g7_l1 (by decide : Rg 0 12 (0 : Int32)) g7_km (by have y90 : x0.toInt ≤ y7_l3.toInt := (lz_le _ _).mp c50249; have y91 : Rg 0 12 x0 := g7_l1; have y92 : Rg 0 12 x0 := g7_km; have y93 : Rg 0 120 l_tp := p_tp; have y94 : Rg 0 120 l_to := p_to; have y9c5 : (0 : Int32).toInt = 0 := (by decide); have y9c6 : (1 : Int32).toInt = 1 := (by decide); exact ⟨PO.zero (fun j hj => x7_0 j (by have e1 : x0.toNatClampNeg = x0.toInt.toNat := rfl; have e2 : y7_l3.toNatClampNeg = y7_l3.toInt.toNat := rfl; omega)) (by decide), by omega⟩) hV hP hD hS (lv_sub (l' := [(0, .ref (b 0)), (1, .int x0), (2, .int x1), (3, .int 0)]) hl [1, 2, 3, 0] rfl) (me_i (by decide : Rg 0 12 (0 : Int32)) (by decide))
      · have g50250 : Rg 1 12 x0 := rg_ltr g7_l3 g7_l1 (rg_nle c50249) (by decide)
        have g50251 : Rg 0 11 y7_l3 := rg_ltl g7_l3 g7_l1 (rg_nle c50249) (by decide)
        refine lv_aload_n hx hb dX12_deals_12 rfl (lv_at hl 0 rfl) ?_
        refine va_get (D := D) (ci := 12) (v := .ref (b 1)) (C := RX12) (T := TX12) (N := 24) hx hb hts hin12 hown hK hP 0 rfl rfl 2 (by decide) (hts (.fieldLink RX12 13 "MissedPointsModel" "near" "[I") (by decide +kernel)) (fun _ h9 => h9) rfl dX12_deals_13 ?_
        refine lv_iload_n hx hb dX12_deals_16 rfl (lv_at hl 3 rfl) ?_
        refine lv_iconst (v := 0) hx hb dX12_deals_17 (by decide) ?_
        refine ms_1 hx hb hK hP hD hS hV rfl (rg_in g50251 (by decide) (by decide)) (by decide : Rg 0 4095 (0 : Int32)) dX12_deals_18 (fun v H locs hV ev50252 hP hD hS => ?_)
        refine wk_iinc (lv' := fun r => [(3, .int r), (0, .ref (b 0)), (1, .int x0), (2, .int x1)]) (e1 := 1) (f := 12) hx hb dX12_deals_19 hl (k := 3) rfl (by decide) g50251 (by decide) (fun _ => rfl) (fun r50253 ls hr50253 er50253 hl => ?_)
        refine lv_goto (tgt := 7) hx hb dX12_deals_22 (by decide) ?_
        exact ih7 r50253 v _ _ ls (show Rg 0 12 x0 from rg_w g50250 (by decide) (by decide)) (show Rg 0 12 r50253 from rg_w hr50253 (by decide) (by decide)) (show Rg 0 12 x0 from rg_w g50250 (by decide) (by decide)) (by exact pd_z x7_0 g7_l3.1 er50253 ev50252) hV hP hD hS (lv_sub (l' := [(0, .ref (b 0)), (1, .int x0), (2, .int x1), (3, .int r50253)]) hl [1, 2, 3, 0] rfl) (me_up hm7 er50253 (by decide))
  refine lv_aload_n hx hb dX12_deals_0 rfl (lv_at hl 0 rfl) ?_
  refine lv_iload_n hx hb dX12_deals_1 rfl (lv_at hl 1 rfl) ?_
  refine va_put (D := D) (ci := 12) (v := .int x0) (ty := .int) (C := RX12) (T := TX12) (N := 24) hx hb hts hin12 tyX12 tyX12_ok nmX12 hown hK hP hD hS 0 rfl rfl 0 (by decide) (hts (.fieldLink RX12 63 "MissedPointsModel" "many" "I") (by decide +kernel)) (fun _ h9 => h9) rfl (by decide +kernel) rfl rfl (Nat.le_of_ble_eq_true rfl) dX12_deals_2 (fun H locs hP hD hS => ?_)
  have hP : va_P D cls (wM cI b (mkM x0 l_z l_tp l_hs l_to l_tk l_wo l_so l_sz l_kp) v) H := hP
  have hD : va_D A (wM cI b (mkM x0 l_z l_tp l_hs l_to l_tk l_wo l_so l_sz l_kp) v) := hD
  refine lv_iconst (v := 0) hx hb dX12_deals_5 (by decide) ?_
  refine lv_istore_n (lv' := [(3, .int 0), (0, .ref (b 0)), (1, .int x0), (2, .int x1)]) hx hb dX12_deals_6 rfl hl (by decide) rfl (fun ls hl => ?_)
  exact lp7 13 (0 : Int32) v _ _ ls px0 (by decide : Rg 0 12 (0 : Int32)) px0 (by exact fun j hj => absurd hj (Nat.not_lt_zero j)) hV hP hD hS (lv_sub (l' := [(0, .ref (b 0)), (1, .int x0), (2, .int x1), (3, .int 0)]) hl [1, 2, 3, 0] rfl) (me_i (by decide : Rg 0 12 (0 : Int32)) (by decide))
set_option maxHeartbeats 4000000 in
set_option maxRecDepth 100000 in
theorem w_X12_lines_D (l : Launch) (D : va_G) (cI cS : ClassId) (b : Nat → Nat) (L v : SU) (hL : TyL L) (hV : TyV v) : Met l yX12_lines wsX12_lines ({ frames := 1, cells := 0, slots := 0, locals := 40 }) (PS D cI cS (wM cI b L v) [.ref (b 0)]) (vp_Si (fun r => Rg (-2147483648) 2147483647 r ∧ (r = sumB (v 1) (L 0 0).toNatClampNeg / 2))) 0 0 (fun _ => False) := by
  refine Met.ofW (cc := cX12_lines) (maxL := 3) (ret := (some .int)) (by decide) rfl ?_
  intro p e s m args below meth c s₁ B hml hv
  obtain ⟨rfl, hP, hKK⟩ := hv
  have hx := B.exec
  have hb := B.bytes
  have hr := B.returns
  have hts := atoms_spec (ws := wsX12_lines) B.pre
  have hown : s.vm.findClass RX12 = some m.cls := findClass_of_methodNamed B.named
  have hlocks := B.notSynchronized
  have hK := hKK.1
  have hin12 : ∀ w ∈ wsX120, w ∈ wsX12_lines := by decide +kernel
  have hl := lv_entry ([.ref (b 0)]) (n := 3) (Nat.le_of_ble_eq_true rfl)
  rw [lg_entry_eq]
  generalize (lg_sl ([.ref (b 0)]) ++ List.replicate (3 - (lg_sl ([.ref (b 0)])).length) Slot.unset).toArray = ls at hl ⊢
  have hl : lv_has ls 3 [(0, .ref (b 0))] := hl
  have lp4 : ∀ (n4 : Nat) (y4_l1 : Int32) (y4_l2 : Int32) (ls : Array Slot), Rg 0 12 y4_l2 → (y4_l1 = sumB (v 1) y4_l2.toNatClampNeg ∧ y4_l2.toInt ≤ (L 0 0).toInt) → lv_has ls 3 [(0, .ref (b 0)), (1, .int y4_l1), (2, .int y4_l2)] → 12 - y4_l2.toInt < (n4 : Int) → W p l e (headSpec wsX12_lines ({ frames := 1, cells := 0, slots := 0, locals := 40 })).room s m ([.ref (b 0)]).toArray below meth c s.heap [] 0 0 (MQ below (vp_Si (fun r => Rg (-2147483648) 2147483647 r ∧ (r = sumB (v 1) (L 0 0).toNatClampNeg / 2))) ([.ref (b 0)]).toArray s 0 0 (fun _ => False)) (F0 m 4 ls []) := by
    intro n4
    induction n4 with
    | zero =>
      intro y4_l1 y4_l2 ls g4_l2 x4_0 hl hm4
      exact absurd rfl (me_z g4_l2 hm4)
    | succ n4 ih4 =>
      intro y4_l1 y4_l2 ls g4_l2 x4_0 hl hm4
      refine lv_iload_n hx hb dX12_lines_4 rfl (lv_at hl 2 rfl) ?_
      refine lv_aload_n hx hb dX12_lines_5 rfl (lv_at hl 0 rfl) ?_
      refine va_get (D := D) (ci := 12) (v := .int (L 0 0)) (C := RX12) (T := TX12) (N := 24) hx hb hts hin12 hown hK hP 0 rfl rfl 0 (by decide) (hts (.fieldLink RX12 63 "MissedPointsModel" "many" "I") (by decide +kernel)) (fun _ h9 => h9) rfl dX12_lines_6 ?_
      refine lv_icmp_ge (tgt := 30) hx hb dX12_lines_9 (by decide) (fun c50366 => ?_) (fun c50366 => ?_)
      · refine lv_iload_n hx hb dX12_lines_30 rfl (lv_at hl 1 rfl) ?_
        refine lv_iconst (v := 2) hx hb dX12_lines_31 (by decide) ?_
        refine lv_idiv hx hb dX12_lines_32 (by decide) ?_
        refine wk_topP (P := fun r => Rg (-2147483648) 2147483647 r ∧ r = y4_l1 / 2) ⟨rg_any _, rfl⟩ (fun r50367 hr50367 => ?_)
        exact W.iret (v := r50367) hx hb hr (fun t ht hW => ⟨_, rfl, ⟨hr50367.1, (by have y90 : (L 0 0).toInt ≤ y4_l2.toInt := (lz_le _ _).mp c50366; have y91 : Rg 0 12 y4_l2 := g4_l2; have y92 : Rg (-2147483648) 2147483647 r50367 := hr50367.1; have y9c3 : (0 : Int32).toInt = 0 := (by decide); have y9c4 : (1 : Int32).toInt = 1 := (by decide); skip; rw [hr50367.2, x4_0.1, show y4_l2 = (L 0 0) from Int32.toInt_inj.mp (by omega)])⟩, ht⟩) (fun q hq => absurd hq List.not_mem_nil) dX12_lines_33
      · have g50368 : Rg 1 12 (L 0 0) := rg_ltr g4_l2 hL.1 (rg_nle c50366) (by decide)
        have g50369 : Rg 0 11 y4_l2 := rg_ltl g4_l2 hL.1 (rg_nle c50366) (by decide)
        refine lv_iload_n hx hb dX12_lines_12 rfl (lv_at hl 1 rfl) ?_
        refine lv_aload_n hx hb dX12_lines_13 rfl (lv_at hl 0 rfl) ?_
        refine va_get (D := D) (ci := 12) (v := .ref (b 1)) (C := RX12) (T := TX12) (N := 24) hx hb hts hin12 hown hK hP 0 rfl rfl 2 (by decide) (hts (.fieldLink RX12 13 "MissedPointsModel" "near" "[I") (by decide +kernel)) (fun _ h9 => h9) rfl dX12_lines_14 ?_
        refine lv_iload_n hx hb dX12_lines_17 rfl (lv_at hl 2 rfl) ?_
        refine va_iald hx hb hK hP 1 0 rfl rfl (rg_in g50369 (by decide) (by decide)) dX12_lines_18 ?_
        refine lz_top (y := (v 1 y4_l2.toNatClampNeg)) rfl ?_
        refine lz_ss (As := [.int (v 1 y4_l2.toNatClampNeg)]) (rest := [.int y4_l1]) ⟨hx, hb, hml, hown, hts⟩ (w_X12_bits_E l D cI cS (v 1 y4_l2.toNatClampNeg) (hV.1 y4_l2.toNatClampNeg)) hKK (hP.sub (ws' := []) [] rfl) (va_cwS 1 hts gX12_lines_X12_bits rfl rfl rfl (by decide +kernel) ⟨Nat.le_of_ble_eq_true rfl, Nat.le_of_ble_eq_true rfl⟩) rfl hl.1 rfl (Nat.le_of_ble_eq_true rfl) dX12_lines_19 ⟨Nat.le_of_ble_eq_true rfl, Nat.le_of_ble_eq_true rfl⟩ (fun r50371 hr50371 => ?_)
        refine lv_iadd hx hb dX12_lines_22 ?_
        refine wk_topP (P := fun r => r = y4_l1 + r50371) rfl (fun r50372 qr50372 => ?_)
        refine lv_istore_n (lv' := [(1, .int r50372), (0, .ref (b 0)), (2, .int y4_l2)]) hx hb dX12_lines_23 rfl hl (by decide) rfl (fun ls hl => ?_)
        refine wk_iinc (lv' := fun r => [(2, .int r), (1, .int r50372), (0, .ref (b 0))]) (e1 := 1) (f := 12) hx hb dX12_lines_24 hl (k := 2) rfl (by decide) g50369 (by decide) (fun _ => rfl) (fun r50373 ls hr50373 er50373 hl => ?_)
        refine lv_goto (tgt := 4) hx hb dX12_lines_27 (by decide) ?_
        exact ih4 r50372 r50373 ls (show Rg 0 12 r50373 from rg_w hr50373 (by decide) (by decide)) (by have y90 : y4_l2.toInt < (L 0 0).toInt := (lz_lt _ _).mp (rg_nle c50366); have y91 : Rg 1 12 (L 0 0) := g50368; have y92 : Rg 0 11 y4_l2 := g50369; have y93 : Rg 1 12 r50373 := hr50373; have y9c4 : (0 : Int32).toInt = 0 := (by decide); have y9c5 : (1 : Int32).toInt = 1 := (by decide); exact ⟨sumB_s x4_0.1 g4_l2.1 er50373 qr50372 hr50371.2, by omega⟩) (lv_sub (l' := [(0, .ref (b 0)), (1, .int r50372), (2, .int r50373)]) hl [2, 1, 0] rfl) (me_up hm4 er50373 (by decide))
  refine lv_iconst (v := 0) hx hb dX12_lines_0 (by decide) ?_
  refine lv_istore_n (lv' := [(1, .int 0), (0, .ref (b 0))]) hx hb dX12_lines_1 rfl hl (by decide) rfl (fun ls hl => ?_)
  refine lv_iconst (v := 0) hx hb dX12_lines_2 (by decide) ?_
  refine lv_istore_n (lv' := [(2, .int 0), (1, .int 0), (0, .ref (b 0))]) hx hb dX12_lines_3 rfl hl (by decide) rfl (fun ls hl => ?_)
  exact lp4 13 (0 : Int32) (0 : Int32) ls (by decide : Rg 0 12 (0 : Int32)) (by have y9c0 : (0 : Int32).toInt = 0 := (by decide); have y9c1 : (1 : Int32).toInt = 1 := (by decide); have z8 := hL.1; exact ⟨rfl, by omega⟩) (lv_sub (l' := [(0, .ref (b 0)), (1, .int 0), (2, .int 0)]) hl [2, 1, 0] rfl) (me_i (by decide : Rg 0 12 (0 : Int32)) (by decide))
set_option maxHeartbeats 4000000 in
set_option maxRecDepth 100000 in
theorem w_X12_deal_D (l : Launch) (D : va_G) (cI cS : ClassId) (sz : Nat) (b : Nat → Nat) (l_m l_z l_tp l_hs l_to l_tk l_wo : Int32) (l_so l_sz l_kp : Nat → Int32) (v0 : SU) (hL : TyL (mkM l_m l_z l_tp l_hs l_to l_tk l_wo l_so l_sz l_kp)) (hV : TyV v0) (x0 x1 : Int32) : Met l yX12_deal wsX12_deal ({ frames := 2, cells := 0, slots := 0, locals := 80 }) (PQ D cI cS (wM cI b (mkM l_m l_z l_tp l_hs l_to l_tk l_wo l_so l_sz l_kp) v0) sz [.ref (b 0), .int x0, .int x1]) (QF (S := Int32 × Int32 × SU) D (wM cI b (mkM l_m l_z l_tp l_hs l_to l_tk l_wo l_so l_sz l_kp) v0) (fun q => wM cI b (mkM q.1 q.2.1 l_tp l_hs l_to l_tk l_wo l_so l_sz l_kp) q.2.2) sz (fun r q => TyV q.2.2 ∧ Rg (-2147483648) 2147483647 r ∧ Rg 0 12 q.1 ∧ (r = dealF x0 x1 l_z) ∧ ((x0.toInt < 0 ∨ 12 < x0.toInt ∨ x1.toInt < 0 ∨ 10 < x1.toInt → r.toInt = -2 ∧ q.1.toInt = l_m.toInt) ∧ (0 ≤ x0.toInt → x0.toInt ≤ 12 → 0 ≤ x1.toInt → x1.toInt ≤ 10 → q.1.toInt = x0.toInt)) ∧ ((x0.toInt < 0 ∨ 12 < x0.toInt ∨ x1.toInt < 0 ∨ 10 < x1.toInt → q.2.1.toInt = l_z.toInt) ∧ (0 ≤ x0.toInt → x0.toInt ≤ 12 → 0 ≤ x1.toInt → x1.toInt ≤ 10 → q.2.1.toInt = (pout x1 x0.toNatClampNeg l_z x0.toNatClampNeg).2.toInt)))) 0 0 (va_A (wM cI b (mkM l_m l_z l_tp l_hs l_to l_tk l_wo l_so l_sz l_kp) v0) sz) := by
  refine Met.ofW (cc := cX12_deal) (maxL := 3) (ret := (some .int)) (by decide) rfl ?_
  intro p e s m args below meth c s₁ B hml hv
  obtain ⟨rfl, hsz, hP, hKK, hD0⟩ := hv
  have hx := B.exec
  have hb := B.bytes
  have hr := B.returns
  have hts := atoms_spec (ws := wsX12_deal) B.pre
  have hown : s.vm.findClass RX12 = some m.cls := findClass_of_methodNamed B.named
  have hlocks := B.notSynchronized
  have hK := hKK.1
  subst hsz
  have hD := hD0.self (sz := s.heap.size)
  obtain ⟨A, hAe⟩ : ∃ A, A = va_A (wM cI b (mkM l_m l_z l_tp l_hs l_to l_tk l_wo l_so l_sz l_kp) v0) s.heap.size := ⟨_, rfl⟩
  rw [← hAe] at hD
  have hA : ∀ q : Nat, s.heap.size ≤ q → A q := fun q h => by rw [hAe]; exact Or.inr h
  have hS : va_S A s.heap s.heap [] := va_S.rf
  have hl := lv_entry ([.ref (b 0), .int x0, .int x1]) (n := 3) (Nat.le_of_ble_eq_true rfl)
  rw [lg_entry_eq]
  generalize (lg_sl ([.ref (b 0), .int x0, .int x1]) ++ List.replicate (3 - (lg_sl ([.ref (b 0), .int x0, .int x1])).length) Slot.unset).toArray = ls at hl ⊢
  have hl : lv_has ls 3 [(0, .ref (b 0)), (1, .int x0), (2, .int x1)] := hl
  obtain ⟨v, hv9⟩ : ∃ v : SU, v = v0 := ⟨_, rfl⟩
  rw [← hv9] at hP hD hV
  have p_m : Rg 0 12 l_m := hL.1
  have p_tp : Rg 0 120 l_tp := hL.2.1
  have p_so : Ar (-1) 1 l_so := hL.2.2.1
  have p_sz : Ar 0 40 l_sz := hL.2.2.2.1
  have p_kp : Kp l_kp := hL.2.2.2.2.1
  have p_to : Rg 0 120 l_to := hL.2.2.2.2.2
  refine lv_iload_n hx hb dX12_deal_0 rfl (lv_at hl 1 rfl) ?_
  refine lv_iconst (v := 0) hx hb dX12_deal_1 (by decide) ?_
  refine lv_bipush (v := 12) hx hb dX12_deal_2 (by decide) ?_
  refine lz_ss (As := [.int x0, .int 0, .int 12]) (rest := []) ⟨hx, hb, hml, hown, hts⟩ (w_X12_in l D cI cS x0 (0 : Int32) (12 : Int32)) hKK (hP.sub (ws' := []) [] rfl) (va_cwS 3 hts gX12_deal_X12_in rfl rfl rfl (by decide +kernel) ⟨Nat.le_of_ble_eq_true rfl, Nat.le_of_ble_eq_true rfl⟩) rfl hl.1 rfl (Nat.le_of_ble_eq_true rfl) dX12_deal_4 ⟨Nat.le_of_ble_eq_true rfl, Nat.le_of_ble_eq_true rfl⟩ (fun r50393 hr50393 => ?_)
  refine lv_if_eq (tgt := 20) hx hb dX12_deal_7 (by decide) (fun c50394 => ?_) (fun c50394 => ?_)
  · have zt50395 : (x0.toInt < (0 : Int32).toInt ∨ (12 : Int32).toInt < x0.toInt) := hr50393.2.1 c50394
    have g50396 : Rg 0 0 r50393 := wk_eql hr50393.1 (by decide : Rg 0 0 (0 : Int32)) c50394 (by decide)
    refine lv_bipush (v := (-2)) hx hb dX12_deal_20 (by decide) ?_
    subst hAe
    exact W.iret (v := (-2)) hx hb hr (fun t ht hW => ⟨⟨_, (l_m, l_z, v), rfl, ⟨hV, (by decide : Rg (-2147483648) 2147483647 ((-2) : Int32)), p_m, (deal_b (by have y90 : r50393.toInt = (0 : Int32).toInt := congrArg Int32.toInt c50394; have y91 : Rg 0 0 r50393 := g50396; have y92 : Rg 0 12 l_m := p_m; have y93 : Rg 0 120 l_tp := p_tp; have y94 : Rg 0 120 l_to := p_to; have y9c5 : ((-2) : Int32).toInt = -2 := (by decide); have y9c6 : (0 : Int32).toInt = 0 := (by decide); have y9c7 : (1 : Int32).toInt = 1 := (by decide); have y9c8 : (12 : Int32).toInt = 12 := (by decide); skip; omega)), (show (x0.toInt < 0 ∨ 12 < x0.toInt ∨ x1.toInt < 0 ∨ 10 < x1.toInt → ((-2) : Int32).toInt = -2 ∧ l_m.toInt = l_m.toInt) ∧ (0 ≤ x0.toInt → x0.toInt ≤ 12 → 0 ≤ x1.toInt → x1.toInt ≤ 10 → l_m.toInt = x0.toInt) from by have y90 : r50393.toInt = (0 : Int32).toInt := congrArg Int32.toInt c50394; have y91 : Rg 0 0 r50393 := g50396; have y92 : Rg 0 12 l_m := p_m; have y93 : Rg 0 120 l_tp := p_tp; have y94 : Rg 0 120 l_to := p_to; have y9c5 : ((-2) : Int32).toInt = -2 := (by decide); have y9c6 : (0 : Int32).toInt = 0 := (by decide); have y9c7 : (1 : Int32).toInt = 1 := (by decide); have y9c8 : (12 : Int32).toInt = 12 := (by decide); omega), ⟨fun _ => rfl, fun _ _ _ _ => (by have y90 : r50393.toInt = (0 : Int32).toInt := congrArg Int32.toInt c50394; have y91 : Rg 0 0 r50393 := g50396; have y92 : Rg 0 12 l_m := p_m; have y93 : Rg 0 120 l_tp := p_tp; have y94 : Rg 0 120 l_to := p_to; have y9c5 : ((-2) : Int32).toInt = -2 := (by decide); have y9c6 : (0 : Int32).toInt = 0 := (by decide); have y9c7 : (1 : Int32).toInt = 1 := (by decide); have y9c8 : (12 : Int32).toInt = 12 := (by decide); skip; omega)⟩⟩, by rw [ht]; exact hP, hD⟩, hS.F ht⟩) hS.2.2 dX12_deal_22
  · have zn50397 : (0 : Int32).toInt ≤ x0.toInt ∧ x0.toInt ≤ (12 : Int32).toInt := (hr50393.2.2 c50394)
    have g50398 : Rg 0 12 x0 := wk_in3 (rg_any x0) (by decide : Rg 0 0 (0 : Int32)) (by decide : Rg 12 12 (12 : Int32)) (hr50393.2.2 c50394) (by decide)
    have g50399 : Rg 1 1 r50393 := rg_ne_lo (k := 0) hr50393.1 (by decide) c50394 (by decide)
    refine lv_iload_n hx hb dX12_deal_10 rfl (lv_at hl 2 rfl) ?_
    refine lv_iconst (v := 0) hx hb dX12_deal_11 (by decide) ?_
    refine lv_bipush (v := 10) hx hb dX12_deal_12 (by decide) ?_
    refine lz_ss (As := [.int x1, .int 0, .int 10]) (rest := []) ⟨hx, hb, hml, hown, hts⟩ (w_X12_in l D cI cS x1 (0 : Int32) (10 : Int32)) hKK (hP.sub (ws' := []) [] rfl) (va_cwS 3 hts gX12_deal_X12_in rfl rfl rfl (by decide +kernel) ⟨Nat.le_of_ble_eq_true rfl, Nat.le_of_ble_eq_true rfl⟩) rfl hl.1 rfl (Nat.le_of_ble_eq_true rfl) dX12_deal_14 ⟨Nat.le_of_ble_eq_true rfl, Nat.le_of_ble_eq_true rfl⟩ (fun r50400 hr50400 => ?_)
    refine lv_if_ne (tgt := 23) hx hb dX12_deal_17 (by decide) (fun c50401 => ?_) (fun c50401 => ?_)
    · have zn50402 : (0 : Int32).toInt ≤ x1.toInt ∧ x1.toInt ≤ (10 : Int32).toInt := (hr50400.2.2 c50401)
      have g50403 : Rg 0 10 x1 := wk_in3 (rg_any x1) (by decide : Rg 0 0 (0 : Int32)) (by decide : Rg 10 10 (10 : Int32)) (hr50400.2.2 c50401) (by decide)
      have g50404 : Rg 1 1 r50400 := rg_ne_lo (k := 0) hr50400.1 (by decide) c50401 (by decide)
      refine lv_aload_n hx hb dX12_deal_23 rfl (lv_at hl 0 rfl) ?_
      refine lv_iload_n hx hb dX12_deal_24 rfl (lv_at hl 1 rfl) ?_
      refine lv_iload_n hx hb dX12_deal_25 rfl (lv_at hl 2 rfl) ?_
      refine wk_qv (S := Int32 × Int32 × SU) (fun q => wM cI b (mkM q.1 q.2.1 l_tp l_hs l_to l_tk l_wo l_so l_sz l_kp) q.2.2) (l_m, l_z, v) (As := [.int x0, .int x1]) (rest := []) ⟨hx, hb, hml, hown, hts⟩ (w_X12_deals_D l D cI cS _ b l_m l_z l_tp l_hs l_to l_tk l_wo l_so l_sz l_kp v (show TyL (mkM l_m l_z l_tp l_hs l_to l_tk l_wo l_so l_sz l_kp) from ⟨p_m, p_tp, p_so, p_sz, p_kp, p_to⟩) hV x0 x1 g50398) hKK hP hD hS hA 0 (ci := 12) rfl rfl (cwV 2 hts gX12_deal_X12_deals rfl rfl rfl (by decide +kernel) ⟨Nat.le_of_ble_eq_true rfl, Nat.le_of_ble_eq_true rfl⟩) rfl hl.1 rfl (Nat.le_of_ble_eq_true rfl) dX12_deal_26 ⟨Nat.le_of_ble_eq_true rfl, Nat.le_of_ble_eq_true rfl⟩ (fun q9 H locs hr50405 hP hD hS => ?_)
      obtain ⟨r50406, r50407, v⟩ := q9
      have hr50405 : TyV v ∧ Rg 0 12 r50406 ∧ (r50406.toInt = x0.toInt) ∧ (∃ a9, PO x0 x1 l_z (v 1) r50407 a9 ∧ a9.toInt = x0.toInt) := hr50405
      have hV := hr50405.1
      have hP : va_P D cls (wM cI b (mkM r50406 r50407 l_tp l_hs l_to l_tk l_wo l_so l_sz l_kp) v) H := hP
      have hD : va_D A (wM cI b (mkM r50406 r50407 l_tp l_hs l_to l_tk l_wo l_so l_sz l_kp) v) := hD
      have kr50405_0 := hr50405.2.2.1
      have kr50405_1 := hr50405.2.2.2
      refine lv_aload_n hx hb dX12_deal_29 rfl (lv_at hl 0 rfl) ?_
      refine wk_sv 0 (As := []) (rest := []) ⟨hx, hb, hml, hown, hts⟩ (w_X12_lines_D l D cI cS b (mkM r50406 r50407 l_tp l_hs l_to l_tk l_wo l_so l_sz l_kp) v (show TyL (mkM r50406 r50407 l_tp l_hs l_to l_tk l_wo l_so l_sz l_kp) from ⟨hr50405.2.1, p_tp, p_so, p_sz, p_kp, p_to⟩) hV) hKK hP (ci := 12) rfl rfl (cwV 0 hts gX12_deal_X12_lines rfl rfl rfl (by decide +kernel) ⟨Nat.le_of_ble_eq_true rfl, Nat.le_of_ble_eq_true rfl⟩) rfl hl.1 rfl (Nat.le_of_ble_eq_true rfl) dX12_deal_30 ⟨Nat.le_of_ble_eq_true rfl, Nat.le_of_ble_eq_true rfl⟩ (fun r50408 hr50408 => ?_)
      have ln50409 : r50408 = sumB (v 1) r50406.toNatClampNeg / 2 := hr50408.2
      subst hAe
      exact W.iret (v := r50408) hx hb hr (fun t ht hW => ⟨⟨_, (r50406, r50407, v), rfl, ⟨hV, hr50408.1, hr50405.2.1, (by have y90 : ¬ r50393.toInt = (0 : Int32).toInt := fun z => c50394 (Int32.toInt_inj.mp z); have y91 : ¬ r50400.toInt = (0 : Int32).toInt := fun z => c50401 (Int32.toInt_inj.mp z); have y92 : Rg 0 12 x0 := g50398; have y93 : Rg 1 1 r50393 := g50399; have y94 : Rg 0 10 x1 := g50403; have y95 : Rg 1 1 r50400 := g50404; have y96 : Rg 0 12 x0 := g50398; have y97 : Rg 0 10 x1 := g50403; have y98 : Rg (-2147483648) 2147483647 r50408 := hr50408.1; have y99 : Rg 0 12 r50406 := hr50405.2.1; have y910 : Rg 0 120 l_tp := p_tp; have y911 : Rg 0 120 l_to := p_to; have y9c12 : (0 : Int32).toInt = 0 := (by decide); have y9c13 : (1 : Int32).toInt = 1 := (by decide); have y9c14 : (10 : Int32).toInt = 10 := (by decide); have y9c15 : (12 : Int32).toInt = 12 := (by decide); skip; obtain ⟨a9, h9, h8⟩ := kr50405_1; exact deal_r h9 h8 (by omega) ln50409 (by omega) (by omega) (by omega) (by omega)), (show (x0.toInt < 0 ∨ 12 < x0.toInt ∨ x1.toInt < 0 ∨ 10 < x1.toInt → r50408.toInt = -2 ∧ r50406.toInt = l_m.toInt) ∧ (0 ≤ x0.toInt → x0.toInt ≤ 12 → 0 ≤ x1.toInt → x1.toInt ≤ 10 → r50406.toInt = x0.toInt) from by have y90 : ¬ r50393.toInt = (0 : Int32).toInt := fun z => c50394 (Int32.toInt_inj.mp z); have y91 : ¬ r50400.toInt = (0 : Int32).toInt := fun z => c50401 (Int32.toInt_inj.mp z); have y92 : Rg 0 12 x0 := g50398; have y93 : Rg 1 1 r50393 := g50399; have y94 : Rg 0 10 x1 := g50403; have y95 : Rg 1 1 r50400 := g50404; have y96 : Rg 0 12 x0 := g50398; have y97 : Rg 0 10 x1 := g50403; have y98 : Rg (-2147483648) 2147483647 r50408 := hr50408.1; have y99 : Rg 0 12 r50406 := hr50405.2.1; have y910 : Rg 0 120 l_tp := p_tp; have y911 : Rg 0 120 l_to := p_to; have y912 : Rg (-2147483648) 2147483647 r50408 := hr50408.1; have y9c13 : (0 : Int32).toInt = 0 := (by decide); have y9c14 : (1 : Int32).toInt = 1 := (by decide); have y9c15 : (10 : Int32).toInt = 10 := (by decide); have y9c16 : (12 : Int32).toInt = 12 := (by decide); omega), ⟨fun _ => (by have y90 : ¬ r50393.toInt = (0 : Int32).toInt := fun z => c50394 (Int32.toInt_inj.mp z); have y91 : ¬ r50400.toInt = (0 : Int32).toInt := fun z => c50401 (Int32.toInt_inj.mp z); have y92 : Rg 0 12 x0 := g50398; have y93 : Rg 1 1 r50393 := g50399; have y94 : Rg 0 10 x1 := g50403; have y95 : Rg 1 1 r50400 := g50404; have y96 : Rg 0 12 x0 := g50398; have y97 : Rg 0 10 x1 := g50403; have y98 : Rg (-2147483648) 2147483647 r50408 := hr50408.1; have y99 : Rg 0 12 r50406 := hr50405.2.1; have y910 : Rg 0 120 l_tp := p_tp; have y911 : Rg 0 120 l_to := p_to; have y9c12 : (0 : Int32).toInt = 0 := (by decide); have y9c13 : (1 : Int32).toInt = 1 := (by decide); have y9c14 : (10 : Int32).toInt = 10 := (by decide); have y9c15 : (12 : Int32).toInt = 12 := (by decide); skip; omega), fun _ _ _ _ => (by obtain ⟨a9, h9, h8⟩ := kr50405_1; exact h9.z h8)⟩⟩, by rw [ht]; exact hP, hD⟩, hS.F ht⟩) hS.2.2 dX12_deal_33
    · have zt50410 : (x1.toInt < (0 : Int32).toInt ∨ (10 : Int32).toInt < x1.toInt) := hr50400.2.1 c50401
      have g50411 : Rg 0 0 r50400 := wk_eql hr50400.1 (by decide : Rg 0 0 (0 : Int32)) c50401 (by decide)
      refine lv_bipush (v := (-2)) hx hb dX12_deal_20 (by decide) ?_
      subst hAe
      exact W.iret (v := (-2)) hx hb hr (fun t ht hW => ⟨⟨_, (l_m, l_z, v), rfl, ⟨hV, (by decide : Rg (-2147483648) 2147483647 ((-2) : Int32)), p_m, (deal_b (by have y90 : ¬ r50393.toInt = (0 : Int32).toInt := fun z => c50394 (Int32.toInt_inj.mp z); have y91 : r50400.toInt = (0 : Int32).toInt := congrArg Int32.toInt c50401; have y92 : Rg 0 12 x0 := g50398; have y93 : Rg 1 1 r50393 := g50399; have y94 : Rg 0 0 r50400 := g50411; have y95 : Rg 0 12 x0 := g50398; have y96 : Rg 0 12 l_m := p_m; have y97 : Rg 0 120 l_tp := p_tp; have y98 : Rg 0 120 l_to := p_to; have y9c9 : ((-2) : Int32).toInt = -2 := (by decide); have y9c10 : (0 : Int32).toInt = 0 := (by decide); have y9c11 : (1 : Int32).toInt = 1 := (by decide); have y9c12 : (10 : Int32).toInt = 10 := (by decide); have y9c13 : (12 : Int32).toInt = 12 := (by decide); skip; omega)), (show (x0.toInt < 0 ∨ 12 < x0.toInt ∨ x1.toInt < 0 ∨ 10 < x1.toInt → ((-2) : Int32).toInt = -2 ∧ l_m.toInt = l_m.toInt) ∧ (0 ≤ x0.toInt → x0.toInt ≤ 12 → 0 ≤ x1.toInt → x1.toInt ≤ 10 → l_m.toInt = x0.toInt) from by have y90 : ¬ r50393.toInt = (0 : Int32).toInt := fun z => c50394 (Int32.toInt_inj.mp z); have y91 : r50400.toInt = (0 : Int32).toInt := congrArg Int32.toInt c50401; have y92 : Rg 0 12 x0 := g50398; have y93 : Rg 1 1 r50393 := g50399; have y94 : Rg 0 0 r50400 := g50411; have y95 : Rg 0 12 x0 := g50398; have y96 : Rg 0 12 l_m := p_m; have y97 : Rg 0 120 l_tp := p_tp; have y98 : Rg 0 120 l_to := p_to; have y9c9 : ((-2) : Int32).toInt = -2 := (by decide); have y9c10 : (0 : Int32).toInt = 0 := (by decide); have y9c11 : (1 : Int32).toInt = 1 := (by decide); have y9c12 : (10 : Int32).toInt = 10 := (by decide); have y9c13 : (12 : Int32).toInt = 12 := (by decide); omega), ⟨fun _ => rfl, fun _ _ _ _ => (by have y90 : ¬ r50393.toInt = (0 : Int32).toInt := fun z => c50394 (Int32.toInt_inj.mp z); have y91 : r50400.toInt = (0 : Int32).toInt := congrArg Int32.toInt c50401; have y92 : Rg 0 12 x0 := g50398; have y93 : Rg 1 1 r50393 := g50399; have y94 : Rg 0 0 r50400 := g50411; have y95 : Rg 0 12 x0 := g50398; have y96 : Rg 0 12 l_m := p_m; have y97 : Rg 0 120 l_tp := p_tp; have y98 : Rg 0 120 l_to := p_to; have y9c9 : ((-2) : Int32).toInt = -2 := (by decide); have y9c10 : (0 : Int32).toInt = 0 := (by decide); have y9c11 : (1 : Int32).toInt = 1 := (by decide); have y9c12 : (10 : Int32).toInt = 10 := (by decide); have y9c13 : (12 : Int32).toInt = 12 := (by decide); skip; omega)⟩⟩, by rw [ht]; exact hP, hD⟩, hS.F ht⟩) hS.2.2 dX12_deal_22
