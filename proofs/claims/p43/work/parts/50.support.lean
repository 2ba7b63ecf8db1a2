/-! numbers within bounds -/
abbrev Rg (a b : Int) (x : Int32) : Prop := a ≤ x.toInt ∧ x.toInt ≤ b
abbrev Ar (a b : Int) (f : Nat → Int32) : Prop := ∀ i, Rg a b (f i)
theorem rg_any (x : Int32) : Rg (-2147483648) 2147483647 x := ⟨Int32.le_toInt x, Int32.toInt_le x⟩
theorem rg_w {a b a' b' : Int} {x : Int32} (h : Rg a b x) (h1 : a' ≤ a) (h2 : b ≤ b') : Rg a' b' x := ⟨Int.le_trans h1 h.1, Int.le_trans h.2 h2⟩
theorem rg_in {a b : Int} {x : Int32} {n : Nat} (h : Rg a b x) (h1 : 0 ≤ a) (h2 : b < (n : Int)) : vp_in x n := vp_in_iff.mpr ⟨Int.le_trans h1 h.1, Int.lt_of_le_of_lt h.2 h2⟩
theorem rg_ltl {a b c d e : Int} {x y : Int32} (hx : Rg a b x) (hy : Rg c d y) (h : x < y) (he : d ≤ e + 1) : Rg a e x := by
  have := (lz_lt x y).mp h
  obtain ⟨h1, h2⟩ := hx; obtain ⟨h3, h4⟩ := hy
  exact ⟨h1, by omega⟩
theorem rg_ltr {a b c d e : Int} {x y : Int32} (hx : Rg a b x) (hy : Rg c d y) (h : x < y) (he : e ≤ a + 1) : Rg e d y := by
  have := (lz_lt x y).mp h
  obtain ⟨h1, h2⟩ := hx; obtain ⟨h3, h4⟩ := hy
  exact ⟨by omega, h4⟩
theorem rg_lel {a b c d e : Int} {x y : Int32} (hx : Rg a b x) (hy : Rg c d y) (h : x ≤ y) (he : d ≤ e) : Rg a e x := by
  have := (lz_le x y).mp h
  obtain ⟨h1, h2⟩ := hx; obtain ⟨h3, h4⟩ := hy
  exact ⟨h1, by omega⟩
theorem rg_ler {a b c d e : Int} {x y : Int32} (hx : Rg a b x) (hy : Rg c d y) (h : x ≤ y) (he : e ≤ a) : Rg e d y := by
  have := (lz_le x y).mp h
  obtain ⟨h1, h2⟩ := hx; obtain ⟨h3, h4⟩ := hy
  exact ⟨by omega, h4⟩
theorem rg_nlt {x y : Int32} (h : ¬ x < y) : y ≤ x := Int32.not_lt.mp h
theorem rg_nle {x y : Int32} (h : ¬ x ≤ y) : y < x := Int32.not_le.mp h
theorem rg_ne_lo {a b e : Int} {x k : Int32} (h : Rg a b x) (hk : k.toInt = a) (hn : ¬ x = k) (he : e = a + 1) : Rg e b x := by
  have : x.toInt ≠ a := fun z => hn (Int32.toInt_inj.mp (by omega))
  obtain ⟨h1, h2⟩ := h
  exact ⟨by omega, h2⟩
theorem rg_ne_hi {a b e : Int} {x k : Int32} (h : Rg a b x) (hk : k.toInt = b) (hn : ¬ x = k) (he : e + 1 = b) : Rg a e x := by
  have : x.toInt ≠ b := fun z => hn (Int32.toInt_inj.mp (by omega))
  obtain ⟨h1, h2⟩ := h
  exact ⟨h1, by omega⟩
theorem rg_wrap {n : Int} (h1 : -2147483648 ≤ n) (h2 : n ≤ 2147483647) : n.bmod 4294967296 = n := by
  apply Int.bmod_eq_of_le <;> omega
theorem rg_addE {a b c d : Int} {x y : Int32} (hx : Rg a b x) (hy : Rg c d y) (h1 : -2147483648 ≤ a + c) (h2 : b + d ≤ 2147483647) : (x + y).toInt = x.toInt + y.toInt := by
  obtain ⟨p1, p2⟩ := hx; obtain ⟨p3, p4⟩ := hy
  rw [Int32.toInt_add]
  exact rg_wrap (by omega) (by omega)
theorem rg_add {a b c d e f : Int} {x y : Int32} (hx : Rg a b x) (hy : Rg c d y) (h1 : -2147483648 ≤ a + c) (h2 : b + d ≤ 2147483647) (he : e ≤ a + c) (hf : b + d ≤ f) : Rg e f (x + y) := by
  have := rg_addE hx hy h1 h2
  obtain ⟨p1, p2⟩ := hx; obtain ⟨p3, p4⟩ := hy
  exact ⟨by omega, by omega⟩
theorem rg_subE {a b c d : Int} {x y : Int32} (hx : Rg a b x) (hy : Rg c d y) (h1 : -2147483648 ≤ a - d) (h2 : b - c ≤ 2147483647) : (x - y).toInt = x.toInt - y.toInt := by
  obtain ⟨p1, p2⟩ := hx; obtain ⟨p3, p4⟩ := hy
  rw [Int32.toInt_sub]
  exact rg_wrap (by omega) (by omega)
theorem rg_sub {a b c d e f : Int} {x y : Int32} (hx : Rg a b x) (hy : Rg c d y) (h1 : -2147483648 ≤ a - d) (h2 : b - c ≤ 2147483647) (he : e ≤ a - d) (hf : b - c ≤ f) : Rg e f (x - y) := by
  have := rg_subE hx hy h1 h2
  obtain ⟨p1, p2⟩ := hx; obtain ⟨p3, p4⟩ := hy
  exact ⟨by omega, by omega⟩
/-- a number that is not negative times a constant that is not -/
theorem rg_mulE {b d : Int} {x y : Int32} (hx : Rg 0 b x) (hy : Rg 0 d y) (h2 : b * d ≤ 2147483647) : (x * y).toInt = x.toInt * y.toInt := by
  obtain ⟨p1, p2⟩ := hx; obtain ⟨p3, p4⟩ := hy
  rw [Int32.toInt_mul]
  exact rg_wrap (Int.le_trans (by decide) (Int.mul_nonneg p1 p3)) (Int.le_trans (Int.mul_le_mul p2 p4 p3 (Int.le_trans p1 p2)) h2)
theorem rg_mul {b d f : Int} {x y : Int32} (hx : Rg 0 b x) (hy : Rg 0 d y) (h2 : b * d ≤ 2147483647) (hf : b * d ≤ f) : Rg 0 f (x * y) := by
  have := rg_mulE hx hy h2
  obtain ⟨p1, p2⟩ := hx; obtain ⟨p3, p4⟩ := hy
  exact ⟨by rw [this]; exact Int.mul_nonneg p1 p3, by rw [this]; exact Int.le_trans (Int.mul_le_mul p2 p4 p3 (Int.le_trans p1 p2)) hf⟩
theorem rg_nat {x : Int32} (h : 0 ≤ x.toInt) : ∃ n : Nat, n < 2147483648 ∧ x = nI n ∧ x.toInt = (n : Int) := by
  have h2 := (rg_any x).2
  refine ⟨x.toInt.toNat, by omega, ?_, by omega⟩
  apply Int32.toInt_inj.mp
  show x.toInt = (Int32.ofNat x.toInt.toNat).toInt
  rw [Int32.toInt_ofNat_of_lt (by omega)]
  omega
theorem bv_of {z : Int32} (h : z.toBitVec.toNat < 2147483648) : z.toInt = (z.toBitVec.toNat : Int) := by
  show z.toBitVec.toInt = _
  exact BitVec.toInt_eq_toNat_of_lt (by omega)
theorem bv_to {z : Int32} (h : 0 ≤ z.toInt) : z.toBitVec.toNat < 2147483648 := by
  have h1 : 0 ≤ z.toBitVec.toInt := h
  rw [BitVec.toInt_eq_toNat_cond] at h1
  have := z.toBitVec.isLt
  split at h1 <;> omega
theorem bv_andr (x y : Int32) : (x &&& y).toBitVec.toNat ≤ y.toBitVec.toNat := by
  rw [Int32.toBitVec_and, BitVec.toNat_and]
  exact Nat.and_le_right
theorem bv_andl (x y : Int32) : (x &&& y).toBitVec.toNat ≤ x.toBitVec.toNat := by
  rw [Int32.toBitVec_and, BitVec.toNat_and]
  exact Nat.and_le_left
theorem rg_andr {c d : Int} {x y : Int32} (hy : Rg c d y) (hc : 0 ≤ c) : Rg 0 d (x &&& y) := by
  have h1 := bv_to (Int.le_trans hc hy.1)
  have h2 := bv_of h1
  have h3 := bv_andr x y
  have h4 := bv_of (z := x &&& y) (by omega)
  obtain ⟨h5, h6⟩ := hy
  exact ⟨by omega, by omega⟩
theorem rg_andl {c d : Int} {x y : Int32} (hx : Rg c d x) (hc : 0 ≤ c) : Rg 0 d (x &&& y) := by
  have h1 := bv_to (Int.le_trans hc hx.1)
  have h2 := bv_of h1
  have h3 := bv_andl x y
  have h4 := bv_of (z := x &&& y) (by omega)
  obtain ⟨h5, h6⟩ := hx
  exact ⟨by omega, by omega⟩
theorem rg_or (k : Nat) {a b c d e f : Int} {x y : Int32} (hx : Rg a b x) (hy : Rg c d y) (ha : 0 ≤ a) (hc : 0 ≤ c) (hk : k ≤ 31) (hb : b < (2 ^ k : Nat)) (hd : d < (2 ^ k : Nat)) (he : e ≤ a ∨ e ≤ c) (hf : ((2 ^ k : Nat) : Int) ≤ f + 1) : Rg e f (x ||| y) := by
  obtain ⟨h5, h6⟩ := hx; obtain ⟨h7, h8⟩ := hy
  have hx1 := bv_to (Int.le_trans ha h5)
  have hy1 := bv_to (Int.le_trans hc h7)
  have hx2 := bv_of hx1
  have hy2 := bv_of hy1
  have hlt : (x ||| y).toBitVec.toNat < 2 ^ k := by
    rw [Int32.toBitVec_or, BitVec.toNat_or]
    exact Nat.or_lt_two_pow (by omega) (by omega)
  have h31 : 2 ^ k ≤ 2 ^ 31 := Nat.pow_le_pow_right (by decide) hk
  have h3 := bv_of (z := x ||| y) (by omega)
  have hl : x.toBitVec.toNat ≤ (x ||| y).toBitVec.toNat := by
    rw [Int32.toBitVec_or, BitVec.toNat_or]
    exact Nat.left_le_or
  have hr : y.toBitVec.toNat ≤ (x ||| y).toBitVec.toNat := by
    rw [Int32.toBitVec_or, BitVec.toNat_or]
    exact Nat.right_le_or
  exact ⟨by omega, by omega⟩
theorem rg_orl {a b c d : Int} {x y : Int32} (hx : Rg a b x) (hy : Rg c d y) (ha : 0 ≤ a) (hc : 0 ≤ c) : x.toInt ≤ (x ||| y).toInt := by
  have h1 := (rg_any x).2
  have h2 := (rg_any y).2
  exact (rg_or 31 (e := x.toInt) (f := 2147483647) (a := x.toInt) (b := x.toInt) ⟨Int.le_refl _, Int.le_refl _⟩ (c := y.toInt) (d := y.toInt) ⟨Int.le_refl _, Int.le_refl _⟩ (Int.le_trans ha hx.1) (Int.le_trans hc hy.1) (by decide) (by omega) (by omega) (Or.inl (Int.le_refl _)) (by decide)).1
theorem sh_1 : ∀ j : Nat, j < 31 → (1 : Int32) <<< (nI j &&& 31) = nI (2 ^ j) := by decide +kernel
theorem rg_shl1 {d f : Int} {y : Int32} (hy : Rg 0 d y) (hd : d ≤ 30) (hf : (2 ^ d.toNat : Nat) ≤ f) : Rg 1 f ((1 : Int32) <<< (y &&& 31)) := by
  obtain ⟨n, hn, rfl, e⟩ := rg_nat hy.1
  have h2 := hy.2
  rw [sh_1 n (by omega)]
  have h3 : 2 ^ n ≤ 2 ^ 30 := Nat.pow_le_pow_right (by decide) (by omega)
  have h4 : 2 ^ n ≤ 2 ^ d.toNat := Nat.pow_le_pow_right (by decide) (by omega)
  have h5 : 1 ≤ 2 ^ n := Nat.one_le_two_pow
  have h6 : (nI (2 ^ n)).toInt = ((2 ^ n : Nat) : Int) := nI_toInt (by omega)
  refine ⟨by rw [h6]; omega, by rw [h6]; omega⟩
theorem rg_shl {d f : Int} {x y : Int32} (hx : Rg 0 1 x) (hy : Rg 0 d y) (hd : d ≤ 30) (hf : (2 ^ d.toNat : Nat) ≤ f) : Rg 0 f (x <<< (y &&& 31)) := by
  obtain ⟨n, hn, rfl, e⟩ := rg_nat hx.1
  have h2 := hx.2
  have h3 := rg_shl1 hy hd hf
  rcases (show n = 0 ∨ n = 1 by omega) with rfl | rfl
  · have h0 : (nI 0 : Int32) <<< (y &&& 31) = 0 := by
      obtain ⟨q, hq, rfl, eq⟩ := rg_nat hy.1
      have h4 := hy.2
      exact (show ∀ j : Nat, j < 31 → (nI 0 : Int32) <<< (nI j &&& 31) = 0 by decide +kernel) q (by omega)
    rw [h0]
    exact ⟨by decide, by have := h3.1; have := h3.2; have e0 : (0 : Int32).toInt = 0 := by decide
                         omega⟩
  · exact rg_w h3 (by decide) (Int.le_refl _)
theorem rg_divE {x kk : Int32} {n : Int} (hx : 0 ≤ x.toInt) (hk : kk.toInt = n) (hn : 0 < n) : (x / kk).toInt = x.toInt / n := by
  have hne : kk ≠ -1 := fun z => by
    rw [z] at hk
    have e1 : (-1 : Int32).toInt = -1 := by decide
    omega
  rw [Int32.toInt_div_of_ne_right _ _ hne, hk, Int.tdiv_eq_ediv_of_nonneg hx]
theorem rg_divn {x kk : Int32} {b n : Int} (X : Rg 0 b x) (hk : kk.toInt = n) (hn : 0 < n) : Rg 0 b (x / kk) := by
  have e := rg_divE X.1 hk hn
  have h1 := Int.ediv_nonneg X.1 (Int.le_of_lt hn)
  have h2 := Int.ediv_le_self n X.1
  obtain ⟨h3, h4⟩ := X
  exact ⟨by omega, by omega⟩
theorem rg_remE {x kk : Int32} {n : Int} (hx : 0 ≤ x.toInt) (hk : kk.toInt = n) (hn : 0 < n) : (x - x / kk * kk).toInt = x.toInt % n := by
  have e := rg_divE hx hk hn
  have h1 := Int.ediv_nonneg hx (Int.le_of_lt hn)
  have h5 := (rg_any x).2
  have h6 := Int.emod_nonneg x.toInt (show n ≠ 0 by omega)
  have h7 := Int.emod_lt_of_pos x.toInt hn
  have h8 : x.toInt % n = x.toInt - n * (x.toInt / n) := Int.emod_def _ _
  have h9 : x.toInt / n * n = n * (x.toInt / n) := Int.mul_comm _ _
  have h10 : 0 ≤ x.toInt / n * n := Int.mul_nonneg h1 (Int.le_of_lt hn)
  have e2 : (x / kk * kk).toInt = x.toInt / n * n := by
    rw [Int32.toInt_mul, e, hk]
    exact rg_wrap (by omega) (by omega)
  rw [Int32.toInt_sub, e2, h8, ← h9]
  exact rg_wrap (by omega) (by omega)
theorem rg_remn {x kk : Int32} {b n : Int} (X : Rg 0 b x) (hk : kk.toInt = n) (hn : 0 < n) : Rg 0 (n - 1) (x - x / kk * kk) := by
  have e := rg_remE X.1 hk hn
  have h6 := Int.emod_nonneg x.toInt (show n ≠ 0 by omega)
  have h7 := Int.emod_lt_of_pos x.toInt hn
  exact ⟨by omega, by omega⟩
/-! steps with numbers known by bounds -/
theorem me_up {h y r d : Int} {n : Nat} (hm : h - y < ((n + 1 : Nat) : Int)) (e : r = y + d) (hd : 0 < d) : h - r < (n : Int) := by omega
theorem me_dn {h y r d : Int} {n : Nat} (hm : y - h < ((n + 1 : Nat) : Int)) (e : r = y + d) (hd : d < 0) : r - h < (n : Int) := by omega
theorem me_lt {y r : Int} {n : Nat} (hm : y < ((n + 1 : Nat) : Int)) (h : r < y) : r < (n : Int) := by omega
theorem me_k {a b : Int} {x : Int32} {n : Nat} (h : Rg a b x) (hn : b < (n : Int)) : x.toInt < (n : Int) := by have := h.2; omega
theorem me_0 {a b : Int} {x : Int32} (h : Rg a b x) (ha : 0 ≤ a) (hm : x.toInt < ((0 : Nat) : Int)) : ¬ (0 : Nat) = 0 := by have := h.1; omega
theorem me_i {a b : Int} {x : Int32} {n : Nat} (h : Rg a b x) (hn : b - a < (n : Int)) : b - x.toInt < (n : Int) := by have := h.1; omega
theorem me_j {a b : Int} {x : Int32} {n : Nat} (h : Rg a b x) (hn : b - a < (n : Int)) : x.toInt - a < (n : Int) := by have := h.2; omega
theorem me_z {a b : Int} {x : Int32} (h : Rg a b x) (hm : b - x.toInt < ((0 : Nat) : Int)) : ¬ (0 : Nat) = 0 := by have := h.2; omega
theorem me_y {a b : Int} {x : Int32} (h : Rg a b x) (hm : x.toInt - a < ((0 : Nat) : Int)) : ¬ (0 : Nat) = 0 := by have := h.1; omega
theorem wk_nz {a b : Int} {x : Int32} (h : Rg a b x) (hh : 0 < a ∨ b < 0) : ¬ x = 0 := fun e => by
  subst e
  obtain ⟨h1, h2⟩ := h
  have e0 : (0 : Int32).toInt = 0 := by decide
  omega
theorem wk_ylt {a b c d : Int} {x y : Int32} (hx : Rg a b x) (hy : Rg c d y) (h : b < c) : x < y := (lz_lt x y).mpr (by have := hx.2; have := hy.1; omega)
theorem wk_nlt {a b c d : Int} {x y : Int32} (hx : Rg a b x) (hy : Rg c d y) (h : d ≤ a) : ¬ x < y := fun z => by have := (lz_lt x y).mp z; have := hx.1; have := hy.2; omega
theorem wk_yle {a b c d : Int} {x y : Int32} (hx : Rg a b x) (hy : Rg c d y) (h : b ≤ c) : x ≤ y := (lz_le x y).mpr (by have := hx.2; have := hy.1; omega)
theorem wk_nle {a b c d : Int} {x y : Int32} (hx : Rg a b x) (hy : Rg c d y) (h : d < a) : ¬ x ≤ y := fun z => by have := (lz_le x y).mp z; have := hx.1; have := hy.2; omega
theorem wk_neq {a b c d : Int} {x y : Int32} (hx : Rg a b x) (hy : Rg c d y) (h : d < a ∨ b < c) : ¬ x = y := fun z => by subst z; obtain ⟨h1, h2⟩ := hx; obtain ⟨h3, h4⟩ := hy; omega
theorem wk_yeq {a b c d : Int} {x y : Int32} (hx : Rg a b x) (hy : Rg c d y) (h : a = b ∧ b = c ∧ c = d) : x = y := Int32.toInt_inj.mp (by obtain ⟨h1, h2⟩ := hx; obtain ⟨h3, h4⟩ := hy; omega)
theorem wk_eql {a b c d e f : Int} {x y : Int32} (hx : Rg a b x) (hy : Rg c d y) (h : x = y) (he : (e = a ∨ e = c) ∧ (f = b ∨ f = d)) : Rg e f x := by subst h; obtain ⟨h1, h2⟩ := hx; obtain ⟨h3, h4⟩ := hy; exact ⟨by omega, by omega⟩
theorem wk_eqr {a b c d e f : Int} {x y : Int32} (hx : Rg a b x) (hy : Rg c d y) (h : x = y) (he : (e = a ∨ e = c) ∧ (f = b ∨ f = d)) : Rg e f y := by subst h; exact wk_eql hx hy rfl he
theorem wk_nb {v : Int32} (h : Rg 0 1 v) : narrow .boolean (.int v) = .int v := by
  obtain ⟨n, hn, rfl, e⟩ := rg_nat h.1
  have := h.2
  rcases (show n = 0 ∨ n = 1 by omega) with rfl | rfl <;> decide
theorem wk_in3 {a b c d e f lo hi : Int} {x y z : Int32} (hx : Rg a b x) (hy : Rg c d y) (hz : Rg e f z) (h : y.toInt ≤ x.toInt ∧ x.toInt ≤ z.toInt) (hh : (lo = a ∨ lo = c) ∧ (hi = b ∨ hi = f)) : Rg lo hi x := by
  obtain ⟨h1, h2⟩ := hx; obtain ⟨h3, h4⟩ := hy; obtain ⟨h5, h6⟩ := hz
  exact ⟨by omega, by omega⟩
theorem met_si {l : Launch} {y : MethodName} {ws : List Cond} {rm : Room} {P : Array Value → State → Prop} {q1 q2 : Int32 → Prop} {F : Addr → Prop} {mc ms : Nat} (h : Met l y ws rm P (vp_Si q1) mc ms F) (hq : ∀ r, q1 r → q2 r) : Met l y ws rm P (vp_Si q2) mc ms F :=
  MetFree.mono h (fun _ _ z => z) (fun _ _ _ _ _ z => z) (fun _ _ _ _ _ z => ⟨by obtain ⟨r, a, b, d⟩ := z.1; exact ⟨r, a, hq r b, d⟩, z.2⟩)
theorem bv_dec {x : Int32} (h : ¬ x = 0) : (x &&& (x - 1)).toBitVec.toNat < x.toBitVec.toNat := by
  have h0 : x.toBitVec.toNat ≠ 0 := fun z => h (Int32.toBitVec_inj.mp (BitVec.eq_of_toNat_eq z))
  have h1 := bv_andr x (x - 1)
  have h2 : (x - 1).toBitVec.toNat = x.toBitVec.toNat - 1 := by
    rw [Int32.toBitVec_sub, BitVec.toNat_sub]
    have e1 : (1 : Int32).toBitVec.toNat = 1 := by decide
    rw [e1]
    have := x.toBitVec.isLt
    omega
  omega
theorem wk_sha {a b c d e f k : Int} {r x kk : Int32} (hr : Rg a b r) (hx : Rg c d x) (h : r.toInt = x.toInt + kk.toInt) (hh : kk.toInt = k ∧ (e = c ∨ e = a - k) ∧ (f = d ∨ f = b - k)) : Rg e f x := by
  obtain ⟨h1, h2⟩ := hr; obtain ⟨h3, h4⟩ := hx
  exact ⟨by omega, by omega⟩
theorem wk_shs {a b c d e f k : Int} {r x kk : Int32} (hr : Rg a b r) (hx : Rg c d x) (h : r.toInt = x.toInt - kk.toInt) (hh : kk.toInt = k ∧ (e = c ∨ e = a + k) ∧ (f = d ∨ f = b + k)) : Rg e f x := by
  obtain ⟨h1, h2⟩ := hr; obtain ⟨h3, h4⟩ := hx
  exact ⟨by omega, by omega⟩
theorem wk_xorE (x : Int32) : (x ^^^ (-1)) = ~~~x := by
  apply Int32.toBitVec_inj.mp
  rw [Int32.toBitVec_xor, Int32.toBitVec_not]
  have e : (-1 : Int32).toBitVec = BitVec.allOnes 32 := by decide
  rw [e, BitVec.xor_allOnes]
theorem wk_upd0 {f : Nat → Int32} {i x : Int32} {n : Nat} (hin : vp_in i n) (h : ¬ i = 0) : upd f i.toNatClampNeg x 0 = f 0 := by
  have h1 := (vp_in_iff.mp hin).1
  simp only [upd]
  rw [if_neg]
  intro e
  apply h
  apply Int32.toInt_inj.mp
  have e2 : i.toNatClampNeg = i.toInt.toNat := rfl
  have e0 : (0 : Int32).toInt = 0 := by decide
  omega
theorem rg_ushr (k : Nat) {a b e f : Int} {x y : Int32} (X : Rg a b x) (ha : 0 ≤ a) (hk : k < 32) (hy : (Int32.toUInt32 y &&& Int32.toUInt32 31) = UInt32.ofNat k) (he : e ≤ a / (2 ^ k : Nat)) (hf : b / (2 ^ k : Nat) ≤ f) : Rg e f (Int32.toUInt32 x >>> (Int32.toUInt32 y &&& Int32.toUInt32 31)).toInt32 := by
  obtain ⟨n, hn, rfl, e1⟩ := rg_nat (Int.le_trans ha X.1)
  rw [hy]
  have h1 : (Int32.toUInt32 (nI n) >>> UInt32.ofNat k).toInt32 = nI (n / 2 ^ k) := by
    apply Int32.toBitVec_inj.mp
    apply BitVec.eq_of_toNat_eq
    show (BitVec.ofNat 32 n >>> (BitVec.ofNat 32 k % 32)).toNat = (BitVec.ofNat 32 (n / 2 ^ k)).toNat
    have h2 : (BitVec.ofNat 32 k % 32).toNat = k := by
      rw [BitVec.toNat_umod, BitVec.toNat_ofNat]
      show k % 2 ^ 32 % 32 = k
      omega
    rw [BitVec.ushiftRight_eq', h2, BitVec.toNat_ushiftRight, BitVec.toNat_ofNat, BitVec.toNat_ofNat, Nat.shiftRight_eq_div_pow, Nat.mod_eq_of_lt (by omega), Nat.mod_eq_of_lt (Nat.lt_of_le_of_lt (Nat.div_le_self _ _) (by omega))]
  rw [h1]
  have h4 : n / 2 ^ k ≤ n := Nat.div_le_self _ _
  have h3 : (nI (n / 2 ^ k)).toInt = ((n / 2 ^ k : Nat) : Int) := nI_toInt (by omega)
  have h5 : ((n / 2 ^ k : Nat) : Int) = (n : Int) / ((2 ^ k : Nat) : Int) := Int.natCast_ediv n (2 ^ k)
  have hp : 0 < ((2 ^ k : Nat) : Int) := by have := Nat.two_pow_pos k; omega
  have h6 : a / ((2 ^ k : Nat) : Int) ≤ (n : Int) / ((2 ^ k : Nat) : Int) := Int.ediv_le_ediv hp (by have := X.1; omega)
  have h7 : (n : Int) / ((2 ^ k : Nat) : Int) ≤ b / ((2 ^ k : Nat) : Int) := Int.ediv_le_ediv hp (by have := X.2; omega)
  refine ⟨?_, ?_⟩
  · rw [h3, h5]; exact Int.le_trans he h6
  · rw [h3, h5]; exact Int.le_trans h7 hf
theorem wk_min {a b c d e f : Int} {x y : Int32} (hx : Rg a b x) (hy : Rg c d y) (h : (e ≤ a ∧ e ≤ c) ∧ (b ≤ f ∨ d ≤ f)) : Rg e f (if y < x then y else x) := by
  obtain ⟨h1, h2⟩ := hx; obtain ⟨h3, h4⟩ := hy
  split
  · rename_i z
    have := (lz_lt _ _).mp z
    exact ⟨by omega, by omega⟩
  · rename_i z
    have := mt (lz_lt _ _).mpr z
    exact ⟨by omega, by omega⟩
theorem wk_max {a b c d e f : Int} {x y : Int32} (hx : Rg a b x) (hy : Rg c d y) (h : (e ≤ a ∨ e ≤ c) ∧ b ≤ f ∧ d ≤ f) : Rg e f (if x < y then y else x) := by
  obtain ⟨h1, h2⟩ := hx; obtain ⟨h3, h4⟩ := hy
  split
  · rename_i z
    have := (lz_lt _ _).mp z
    exact ⟨by omega, by omega⟩
  · rename_i z
    have := mt (lz_lt _ _).mpr z
    exact ⟨by omega, by omega⟩
section WK
variable {p : Program} {l : Launch} {e : Env} {R : Room} {s : State} {m : MethodId} {args : Array Value} {below : List Frame} {meth : Method} {c : Code} {H : Heap} {locs : List Loc} {cells slots : Nat} {Q : State → Prop}
variable {pc : Nat} {ls : Array Slot} {rest st0 : List Value} {cc bytes : ByteArray} {nL maxL index n mc ms : Nat} {own : String} {y : MethodName} {ret : Option FieldType} {rm : Room} {Ts ws : List Cond} {D : va_G} {cI cS : ClassId} {b0 : Addr} {As : List Value} {ci : Nat} {q : vw_C} {fs : List Value}
theorem wk_any {x : Int32} (k : ∀ r : Int32, W p l e R s m args below meth c H locs cells slots Q (F0 m pc ls (.int r :: rest))) : W p l e R s m args below meth c H locs cells slots Q (F0 m pc ls (.int x :: rest)) := k x
theorem wk_topP {P : Int32 → Prop} {x : Int32} (h : P x) (k : ∀ r : Int32, P r → W p l e R s m args below meth c H locs cells slots Q (F0 m pc ls (.int r :: rest))) : W p l e R s m args below meth c H locs cells slots Q (F0 m pc ls (.int x :: rest)) := k x h
theorem wk_iadd (hexec : p.tables.exec = Jvm.exec) (hb : c.code = cc) {x y : Int32} (hdg : decode cc pc = .ok (.iadd, 1)) {a b c1 d e1 f : Int} (X : Rg a b x) (Y : Rg c1 d y) (hh : -2147483648 ≤ a + c1 ∧ b + d ≤ 2147483647 ∧ e1 ≤ a + c1 ∧ b + d ≤ f)
    (k : ∀ r : Int32, Rg e1 f r → r.toInt = x.toInt + y.toInt → r = x + y → W p l e R s m args below meth c H locs cells slots Q (F0 m (pc + 1) ls (.int r :: rest))) : W p l e R s m args below meth c H locs cells slots Q (F0 m pc ls (.int y :: .int x :: rest)) := lv_iadd hexec hb hdg (k _ (rg_add X Y hh.1 hh.2.1 hh.2.2.1 hh.2.2.2) (rg_addE X Y hh.1 hh.2.1) rfl)
theorem wk_isub (hexec : p.tables.exec = Jvm.exec) (hb : c.code = cc) {x y : Int32} (hdg : decode cc pc = .ok (.isub, 1)) {a b c1 d e1 f : Int} (X : Rg a b x) (Y : Rg c1 d y) (hh : -2147483648 ≤ a - d ∧ b - c1 ≤ 2147483647 ∧ e1 ≤ a - d ∧ b - c1 ≤ f)
    (k : ∀ r : Int32, Rg e1 f r → r.toInt = x.toInt - y.toInt → r = x - y → W p l e R s m args below meth c H locs cells slots Q (F0 m (pc + 1) ls (.int r :: rest))) : W p l e R s m args below meth c H locs cells slots Q (F0 m pc ls (.int y :: .int x :: rest)) := lv_isub hexec hb hdg (k _ (rg_sub X Y hh.1 hh.2.1 hh.2.2.1 hh.2.2.2) (rg_subE X Y hh.1 hh.2.1) rfl)
theorem wk_imul (hexec : p.tables.exec = Jvm.exec) (hb : c.code = cc) {x y : Int32} (hdg : decode cc pc = .ok (.imul, 1)) {b d f : Int} (X : Rg 0 b x) (Y : Rg 0 d y) (hh : b * d ≤ 2147483647 ∧ b * d ≤ f)
    (k : ∀ r : Int32, Rg 0 f r → r.toInt = x.toInt * y.toInt → r = x * y → W p l e R s m args below meth c H locs cells slots Q (F0 m (pc + 1) ls (.int r :: rest))) : W p l e R s m args below meth c H locs cells slots Q (F0 m pc ls (.int y :: .int x :: rest)) := lv_imul hexec hb hdg (k _ (rg_mul X Y hh.1 hh.2) (rg_mulE X Y hh.1) rfl)
theorem wk_iandl (hexec : p.tables.exec = Jvm.exec) (hb : c.code = cc) {x y : Int32} (hdg : decode cc pc = .ok (.iand, 1)) {a b : Int} (X : Rg a b x) (hh : 0 ≤ a)
    (k : ∀ r : Int32, Rg 0 b r → r = x &&& y → W p l e R s m args below meth c H locs cells slots Q (F0 m (pc + 1) ls (.int r :: rest))) : W p l e R s m args below meth c H locs cells slots Q (F0 m pc ls (.int y :: .int x :: rest)) := lv_iand hexec hb hdg (k _ (rg_andl X hh) rfl)
theorem wk_iandr (hexec : p.tables.exec = Jvm.exec) (hb : c.code = cc) {x y : Int32} (hdg : decode cc pc = .ok (.iand, 1)) {a b : Int} (Y : Rg a b y) (hh : 0 ≤ a)
    (k : ∀ r : Int32, Rg 0 b r → r = x &&& y → W p l e R s m args below meth c H locs cells slots Q (F0 m (pc + 1) ls (.int r :: rest))) : W p l e R s m args below meth c H locs cells slots Q (F0 m pc ls (.int y :: .int x :: rest)) := lv_iand hexec hb hdg (k _ (rg_andr Y hh) rfl)
theorem wk_ior (kk : Nat) (hexec : p.tables.exec = Jvm.exec) (hb : c.code = cc) {x y : Int32} (hdg : decode cc pc = .ok (.ior, 1)) {a b c1 d e1 f : Int} (X : Rg a b x) (Y : Rg c1 d y) (hh : 0 ≤ a ∧ 0 ≤ c1 ∧ kk ≤ 31 ∧ b < (2 ^ kk : Nat) ∧ d < (2 ^ kk : Nat) ∧ (e1 ≤ a ∨ e1 ≤ c1) ∧ ((2 ^ kk : Nat) : Int) ≤ f + 1)
    (k : ∀ r : Int32, Rg e1 f r → r = x ||| y → W p l e R s m args below meth c H locs cells slots Q (F0 m (pc + 1) ls (.int r :: rest))) : W p l e R s m args below meth c H locs cells slots Q (F0 m pc ls (.int y :: .int x :: rest)) := lv_ior hexec hb hdg (k _ (rg_or kk X Y hh.1 hh.2.1 hh.2.2.1 hh.2.2.2.1 hh.2.2.2.2.1 hh.2.2.2.2.2.1 hh.2.2.2.2.2.2) rfl)
theorem wk_ishl1 (hexec : p.tables.exec = Jvm.exec) (hb : c.code = cc) {y : Int32} (hdg : decode cc pc = .ok (.ishl, 1)) {d f : Int} (Y : Rg 0 d y) (hh : d ≤ 30 ∧ (2 ^ d.toNat : Nat) ≤ f)
    (k : ∀ r : Int32, Rg 1 f r → r = (1 : Int32) <<< (y &&& 31) → W p l e R s m args below meth c H locs cells slots Q (F0 m (pc + 1) ls (.int r :: rest))) : W p l e R s m args below meth c H locs cells slots Q (F0 m pc ls (.int y :: .int 1 :: rest)) := lv_ishl hexec hb hdg (k _ (rg_shl1 Y hh.1 hh.2) rfl)
theorem wk_ishl (hexec : p.tables.exec = Jvm.exec) (hb : c.code = cc) {x y : Int32} (hdg : decode cc pc = .ok (.ishl, 1)) {d f : Int} (X : Rg 0 1 x) (Y : Rg 0 d y) (hh : d ≤ 30 ∧ (2 ^ d.toNat : Nat) ≤ f)
    (k : ∀ r : Int32, Rg 0 f r → W p l e R s m args below meth c H locs cells slots Q (F0 m (pc + 1) ls (.int r :: rest))) : W p l e R s m args below meth c H locs cells slots Q (F0 m pc ls (.int y :: .int x :: rest)) := lv_ishl hexec hb hdg (k _ (rg_shl X Y hh.1 hh.2))
theorem wk_iushr (kk : Nat) (hexec : p.tables.exec = Jvm.exec) (hb : c.code = cc) {x y : Int32} (hdg : decode cc pc = .ok (.iushr, 1)) {a b e1 f : Int} (X : Rg a b x) (hh : 0 ≤ a ∧ kk < 32 ∧ e1 ≤ a / (2 ^ kk : Nat) ∧ b / (2 ^ kk : Nat) ≤ f) (hy : (Int32.toUInt32 y &&& Int32.toUInt32 31) = UInt32.ofNat kk)
    (k : ∀ r : Int32, Rg e1 f r → W p l e R s m args below meth c H locs cells slots Q (F0 m (pc + 1) ls (.int r :: rest))) : W p l e R s m args below meth c H locs cells slots Q (F0 m pc ls (.int y :: .int x :: rest)) := lv_iushr hexec hb hdg rfl (k _ (rg_ushr kk X hh.1 hh.2.1 hy hh.2.2.1 hh.2.2.2))
theorem wk_remn {x kk : Int32} {b n : Int} (X : Rg 0 b x) (hk : kk.toInt = n) (hn : 0 < n)
    (k : ∀ r : Int32, Rg 0 (n - 1) r → W p l e R s m args below meth c H locs cells slots Q (F0 m pc ls (.int r :: rest))) : W p l e R s m args below meth c H locs cells slots Q (F0 m pc ls (.int (x - x / kk * kk) :: rest)) := k _ (rg_remn X hk hn)
theorem wk_remv {x y : Int32} {b a d : Int} (X : Rg 0 b x) (Y : Rg a d y) (ha : 0 < a)
    (k : ∀ r : Int32, Rg 0 (d - 1) r → r.toInt < y.toInt → W p l e R s m args below meth c H locs cells slots Q (F0 m pc ls (.int r :: rest))) : W p l e R s m args below meth c H locs cells slots Q (F0 m pc ls (.int (x - x / y * y) :: rest)) := by
  have hy : 0 < y.toInt := Int.lt_of_lt_of_le ha Y.1
  have h := rg_remn X (kk := y) rfl hy
  exact k _ ⟨h.1, by have := h.2; have := Y.2; omega⟩ (by have := h.2; omega)
theorem wk_divn {x kk : Int32} {b n : Int} (X : Rg 0 b x) (hk : kk.toInt = n) (hn : 0 < n)
    (k : ∀ r : Int32, Rg 0 b r → W p l e R s m args below meth c H locs cells slots Q (F0 m pc ls (.int r :: rest))) : W p l e R s m args below meth c H locs cells slots Q (F0 m pc ls (.int (x / kk) :: rest)) := k _ (rg_divn X hk hn)
theorem wk_iinc (hexec : p.tables.exec = Jvm.exec) (hb : c.code = cc) {i nL k : Nat} {n : Int} {x : Int32} {lv : List (Nat × Value)} {lv' : Int32 → List (Nat × Value)} (hdg : decode cc pc = .ok (.iinc i n, 3)) (h : lv_has ls nL lv) (hk : lv[k]? = some (i, .int x)) (hn : i < nL) {a b e1 f : Int} (X : Rg a b x) (hh : -2147483648 ≤ a + n ∧ b + n ≤ 2147483647 ∧ e1 ≤ a + n ∧ b + n ≤ f ∧ -2147483648 ≤ n ∧ n ≤ 2147483647) (hl : ∀ r : Int32, (i, Value.int r) :: lv.filter (fun q => !(q.1 == i) && !(q.1 + 1 == i && q.2.category == 2)) = lv' r)
    (kk : ∀ (r : Int32) (ls' : Array Slot), Rg e1 f r → r.toInt = x.toInt + n → lv_has ls' nL (lv' r) → W p l e R s m args below meth c H locs cells slots Q (F0 m (pc + 3) ls' rest)) : W p l e R s m args below meth c H locs cells slots Q (F0 m pc ls rest) := by
  have en : (Int32.ofInt n).toInt = n := Int32.toInt_ofInt_of_le hh.2.2.2.2.1 (by have := hh.2.2.2.2.2; omega)
  have Y : Rg n n (Int32.ofInt n) := ⟨by omega, by omega⟩
  refine lv_iinc hexec hb hdg h hk rfl hn (hl _) (fun ls' h' => kk _ ls' (rg_add X Y hh.1 hh.2.1 hh.2.2.1 hh.2.2.2.1) ?_ h')
  rw [rg_addE X Y hh.1 hh.2.1, en]
theorem wk_iincA (hexec : p.tables.exec = Jvm.exec) (hb : c.code = cc) {i nL k : Nat} {n : Int} {x : Int32} {lv : List (Nat × Value)} {lv' : Int32 → List (Nat × Value)} (hdg : decode cc pc = .ok (.iinc i n, 3)) (h : lv_has ls nL lv) (hk : lv[k]? = some (i, .int x)) (hn : i < nL) (hl : ∀ r : Int32, (i, Value.int r) :: lv.filter (fun q => !(q.1 == i) && !(q.1 + 1 == i && q.2.category == 2)) = lv' r)
    (kk : ∀ (r : Int32) (ls' : Array Slot), lv_has ls' nL (lv' r) → W p l e R s m args below meth c H locs cells slots Q (F0 m (pc + 3) ls' rest)) : W p l e R s m args below meth c H locs cells slots Q (F0 m pc ls rest) := lv_iinc hexec hb hdg h hk rfl hn (hl _) (fun ls' h' => kk _ ls' h')
/-- a place of a row -/
theorem wk_ald {W0 : va_W} {tys : List (ClassId × FieldType)} (hexec : p.tables.exec = Jvm.exec) (hb : c.code = cc) (hK : va_K D cls tys s) (hP : va_P D cls W0 H) (q0 t0 : Nat) {a0 : Nat} {cA : ClassId} {n : Nat} {f : Nat → Int32} (ha : W0[q0]? = some (a0, .inl (cA, n, .inl f))) (ht : tys[t0]? = some (cA, .int)) {i : Int32} (hin : vp_in i n) (hdg : decode cc pc = .ok (.iaload, 1)) {a b : Int} (hA : Ar a b f)
    (kk : ∀ r : Int32, Rg a b r → W p l e R s m args below meth c H locs cells slots Q (F0 m (pc + 1) ls (.int r :: rest))) : W p l e R s m args below meth c H locs cells slots Q (F0 m pc ls (.int i :: .ref a0 :: rest)) := va_iald hexec hb hK hP q0 t0 ha ht hin hdg (kk _ (hA _))
theorem wk_aldA {W0 : va_W} {tys : List (ClassId × FieldType)} (hexec : p.tables.exec = Jvm.exec) (hb : c.code = cc) (hK : va_K D cls tys s) (hP : va_P D cls W0 H) (q0 t0 : Nat) {a0 : Nat} {cA : ClassId} {n : Nat} {f : Nat → Int32} (ha : W0[q0]? = some (a0, .inl (cA, n, .inl f))) (ht : tys[t0]? = some (cA, .int)) {i : Int32} (hin : vp_in i n) (hdg : decode cc pc = .ok (.iaload, 1))
    (kk : ∀ r : Int32, W p l e R s m args below meth c H locs cells slots Q (F0 m (pc + 1) ls (.int r :: rest))) : W p l e R s m args below meth c H locs cells slots Q (F0 m pc ls (.int i :: .ref a0 :: rest)) := va_iald hexec hb hK hP q0 t0 ha ht hin hdg (kk _)
/-! a call within one world -/
variable {A : Nat → Prop} {H0 : Heap} {S : Type} {pi : Int32 → S → Prop} {pv : S → Prop}
theorem wk_free {ws : va_W} (hD : va_D A ws) (hS : va_S A H0 H locs) (hA : ∀ q, H0.size ≤ q → A q) : ∀ q, va_A ws H.size q → A q := fun q h => by
  rcases h with ⟨k, e, h⟩ | h
  · exact hD.2 k _ h
  · exact hA q (Nat.le_trans hS.1 h)
theorem wk_qi (w : S → va_W) (u0 : S) (F : CallFix p m c cc nL s args Ts own) (hM : Met l y ws rm (PQ D cI cS (w u0) H.size (.ref b0 :: As)) (QF D (w u0) w H.size pi) mc ms (va_A (w u0) H.size)) (hK : KK D cI cS s) (hP : va_P D cls (w u0) H) (hD : va_D A (w u0)) (hS : va_S A H0 H locs) (hA : ∀ q, H0.size ≤ q → A q)
    (k0 : Nat) (hc : cls[ci]? = some q) (he : (w u0)[k0]? = some (b0, .inr (ci, fs))) (cw : CallW R s args own q.1 index y bytes maxL ret ws rm mc ms n) (hn : As.length = n) (hsize : ls.size = nL) (hst : st0 = As.reverse ++ .ref b0 :: rest) (hW : (rest.map fun v => v.category).sum ≤ 8) (hdg : decode cc pc = .ok (.invokevirtual index, 3)) (hf : cells + mc ≤ R.cells ∧ slots + ms ≤ R.slots)
    (kk : ∀ (r : Int32) (u : S) (H1 : Heap) (locs1 : List Loc), pi r u → va_P D cls (w u) H1 → va_D A (w u) → va_S A H0 H1 locs1 → W p l e R s m args below meth c H1 locs1 (cells + mc) (slots + ms) Q (F0 m (pc + 3) ls (.int r :: rest))) : W p l e R s m args below meth c H locs cells slots Q (F0 m pc ls st0) := by
  have hFc := wk_free hD hS hA
  refine va_calli (va_runV (As := As) (rest := rest) F hM cw ⟨lz_bQ, va_recv hK.1 hP hc he, fun U hU hW => ⟨rfl, by rw [hU], by rw [hU]; exact hP, hK.warm hW, hD.weaken (fun _ _ _ _ => trivial)⟩⟩ rfl hn hsize hst (lv_room hW) hdg hf) hS (fun q _ h => hFc q h) hFc (fun r u t H1 locs1 ht hvm hw hB hz1 hk1 hS1 => ?_)
  subst ht
  exact kk r u _ locs1 hw hB.1 (hB.2.weaken (fun _ _ _ h => hFc _ h)) hS1
theorem wk_qv (w : S → va_W) (u0 : S) (F : CallFix p m c cc nL s args Ts own) (hM : Met l y ws rm (PQ D cI cS (w u0) H.size (.ref b0 :: As)) (QE D (w u0) w H.size pv) mc ms (va_A (w u0) H.size)) (hK : KK D cI cS s) (hP : va_P D cls (w u0) H) (hD : va_D A (w u0)) (hS : va_S A H0 H locs) (hA : ∀ q, H0.size ≤ q → A q)
    (k0 : Nat) (hc : cls[ci]? = some q) (he : (w u0)[k0]? = some (b0, .inr (ci, fs))) (cw : CallW R s args own q.1 index y bytes maxL ret ws rm mc ms n) (hn : As.length = n) (hsize : ls.size = nL) (hst : st0 = As.reverse ++ .ref b0 :: rest) (hW : (rest.map fun v => v.category).sum ≤ 8) (hdg : decode cc pc = .ok (.invokevirtual index, 3)) (hf : cells + mc ≤ R.cells ∧ slots + ms ≤ R.slots)
    (kk : ∀ (u : S) (H1 : Heap) (locs1 : List Loc), pv u → va_P D cls (w u) H1 → va_D A (w u) → va_S A H0 H1 locs1 → W p l e R s m args below meth c H1 locs1 (cells + mc) (slots + ms) Q (F0 m (pc + 3) ls rest)) : W p l e R s m args below meth c H locs cells slots Q (F0 m pc ls st0) := by
  have hFc := wk_free hD hS hA
  refine va_callv (va_runV (As := As) (rest := rest) F hM cw ⟨lz_bQ, va_recv hK.1 hP hc he, fun U hU hW => ⟨rfl, by rw [hU], by rw [hU]; exact hP, hK.warm hW, hD.weaken (fun _ _ _ _ => trivial)⟩⟩ rfl hn hsize hst (lv_room hW) hdg hf) hS (fun q _ h => hFc q h) hFc (fun u t H1 locs1 ht hvm hw hB hz1 hk1 hS1 => ?_)
  subst ht
  exact kk u _ locs1 hw hB.1 (hB.2.weaken (fun _ _ _ h => hFc _ h)) hS1
/-- a reader, called on an object that stands anywhere in the world -/
theorem wk_sv {wc : va_W} {post : Int32 → Prop} (k0 : Nat) (F : CallFix p m c cc nL s args Ts own) (hM : Met l y ws rm (PS D cI cS wc (.ref b0 :: As)) (vp_Si post) 0 0 (fun _ => False)) (hK : KK D cI cS s) (hP : va_P D cls wc H) (hc : cls[ci]? = some q) (he : wc[k0]? = some (b0, .inr (ci, fs)))
    (cw : CallW R s args own q.1 index y bytes maxL ret ws rm 0 0 n) (hn : As.length = n) (hsize : ls.size = nL) (hst : st0 = As.reverse ++ .ref b0 :: rest) (hW : (rest.map fun v => v.category).sum ≤ 8) (hdg : decode cc pc = .ok (.invokevirtual index, 3)) (hf : cells ≤ R.cells ∧ slots ≤ R.slots)
    (kk : ∀ r : Int32, post r → W p l e R s m args below meth c H locs cells slots Q (F0 m (pc + 3) ls (.int r :: rest))) : W p l e R s m args below meth c H locs cells slots Q (F0 m pc ls st0) :=
  vp_callSi (W.runV (As := As) (rest := rest) F hM cw ⟨lz_bS, va_recv hK.1 hP hc he, fun U hU hW => ⟨rfl, by rw [hU]; exact hP, hK.warm hW⟩⟩ rfl hn hsize hst (lv_room hW) hdg hf) kk
end WK
/-! sets in numbers -/
theorem an_le {x z : Int32} (h : 0 ≤ x.toInt) : (x &&& z).toInt ≤ x.toInt := (rg_andl (c := 0) (d := x.toInt) ⟨h, Int.le_refl _⟩ (Int.le_refl _)).2
theorem an_pred {x : Int32} (h : 0 ≤ x.toInt) (h0 : ¬ x = 0) : (x &&& (x - 1)).toInt < x.toInt := by
  have h1 := bv_dec h0
  have h2 := bv_of (bv_to h)
  have h3 := bv_to h
  have h4 := bv_of (z := x &&& (x - 1)) (by omega)
  omega
theorem bv_split (x a : Int32) : (x &&& a) ||| (x &&& (a ^^^ (-1))) = x := by
  rw [wk_xorE]
  apply Int32.toBitVec_inj.mp
  rw [Int32.toBitVec_or, Int32.toBitVec_and, Int32.toBitVec_and, Int32.toBitVec_not]
  apply BitVec.eq_of_getLsbD_eq
  intro i hi
  simp only [BitVec.getLsbD_or, BitVec.getLsbD_and, BitVec.getLsbD_not, hi, decide_true, Bool.true_and]
  cases x.toBitVec.getLsbD i <;> cases a.toBitVec.getLsbD i <;> rfl
theorem wk_set {c d : Int} {x a : Int32} (hA : Rg c d a) (hc : 0 ≤ c) (h : x &&& (a ^^^ (-1)) = 0) : Rg 0 d x := by
  have e := bv_split x a
  rw [h, Int32.or_zero] at e
  rw [← e]
  exact rg_andr hA hc
set_option maxRecDepth 1000000 in
theorem lowbit_all : (List.range 4096).all (fun s => decide (s = 0 ∨ ¬ (nI s &&& -(nI s)) = 0)) = true := by decide +kernel
theorem lowbit_ne {x : Int32} (h : Rg 1 4095 x) : ¬ x &&& -x = 0 := by
  obtain ⟨n, hn, rfl, e⟩ := rg_nat (Int.le_trans (by decide) h.1)
  have h1 := h.1
  have h2 := h.2
  exact (co_dec (P := fun s => s = 0 ∨ ¬ (nI s &&& -(nI s)) = 0) lowbit_all (by omega)).resolve_left (by omega)
/-- what stays of x without a set that has the least of x is less -/
theorem an_piece {x r : Int32} (h9 : Rg 1 4095 x) (hr : (x &&& -x) &&& r = x &&& -x) : (x &&& (r ^^^ (-1))).toInt < x.toInt := by
  have h : 0 ≤ x.toInt := Int.le_trans (by decide) h9.1
  have h1 := an_le (z := r ^^^ (-1)) h
  refine Int.lt_iff_le_and_ne.mpr ⟨h1, fun e => ?_⟩
  have e1 : x &&& (r ^^^ (-1)) = x := Int32.toInt_inj.mp e
  have e2 : x &&& r = 0 := by
    have e3 : (x &&& (r ^^^ (-1))) &&& r = 0 := by
      rw [wk_xorE]
      apply Int32.toBitVec_inj.mp
      rw [Int32.toBitVec_and, Int32.toBitVec_and, Int32.toBitVec_not]
      apply BitVec.eq_of_getLsbD_eq
      intro i hi
      have e0 : (0 : Int32).toBitVec = 0#32 := by decide
      rw [e0]
      simp only [BitVec.getLsbD_and, BitVec.getLsbD_not, hi, decide_true, Bool.true_and, BitVec.getLsbD_zero]
      cases x.toBitVec.getLsbD i <;> cases r.toBitVec.getLsbD i <;> rfl
    rw [e1] at e3
    exact e3
  have e4 : x &&& -x = 0 := by
    rw [← hr]
    have : (x &&& -x) &&& r = (x &&& r) &&& -x := by
      apply Int32.toBitVec_inj.mp
      simp only [Int32.toBitVec_and]
      apply BitVec.eq_of_getLsbD_eq
      intro i hi
      simp only [BitVec.getLsbD_and]
      cases x.toBitVec.getLsbD i <;> cases r.toBitVec.getLsbD i <;> cases (-x).toBitVec.getLsbD i <;> rfl
    rw [this, e2]
    simp
  exact lowbit_ne h9 e4
theorem lb_or {b x y : Int32} (h : b &&& x = b) : b &&& (x ||| y) = b := by
  have e := h
  apply Int32.toBitVec_inj.mp
  rw [← Int32.toBitVec_inj] at e
  rw [Int32.toBitVec_and] at e
  rw [Int32.toBitVec_and, Int32.toBitVec_or]
  apply BitVec.eq_of_getLsbD_eq
  intro i hi
  have e2 : (b.toBitVec &&& x.toBitVec).getLsbD i = b.toBitVec.getLsbD i := by rw [e]
  simp only [BitVec.getLsbD_and, BitVec.getLsbD_or] at e2 ⊢
  cases h1 : b.toBitVec.getLsbD i <;> cases h2 : x.toBitVec.getLsbD i <;> rw [h1, h2] at e2 <;> simp_all
abbrev SU : Type := Nat → Nat → Int32
def sU (v : SU) (k : Nat) (g : Nat → Int32) : SU := fun j => cond (Nat.beq j k) g (v j)
