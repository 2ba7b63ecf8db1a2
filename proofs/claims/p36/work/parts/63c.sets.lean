
/-! sets as numbers; pairings of sets -/
def bitI (x : Int32) (b : Nat) : Bool := x.toBitVec.getLsbD b
theorem bitI_nI {v b : Nat} (hb : b < 32) : bitI (nI v) b = v.testBit b := by
  show (BitVec.ofNat 32 v).getLsbD b = _
  rw [BitVec.getLsbD_ofNat, decide_eq_true hb, Bool.true_and]
theorem bitI_or (x y : Int32) (b : Nat) : bitI (x ||| y) b = (bitI x b || bitI y b) := by
  show (x.toBitVec ||| y.toBitVec).getLsbD b = _
  simp [bitI]
theorem bitI_bt1 {c b : Nat} (hc : c < 12) (hb : b < 12) : bitI (bt1 c) b = decide (b = c) := by
  rw [bt1_eq c hc, bitI_nI (by omega), Nat.testBit_two_pow]
  by_cases h : c = b
  · simp [h]
  · simp [h, Ne.symm h]
def Sym (k : Nat) (f : Nat → Int32) : Prop := ∀ a b, a < k → b < k → bitI (f a) b = bitI (f b) a
theorem lay1_bit {k : Nat} (hk : k ≤ 12) (f : Nat → Int32) {a b i j : Nat} (hab : a ≠ b) (ha : a < k) (hb : b < k) (hi : i < k) (hj : j < k) : bitI (lay1 f a b i) j = (bitI (f i) j || (decide (i = a) && decide (j = b)) || (decide (i = b) && decide (j = a))) := by
  have e : lay1 f a b i = if i = b then f b ||| bt1 a else if i = a then f a ||| bt1 b else f i := by
    simp only [lay1, upd]
    by_cases h1 : i = b
    · subst h1
      simp [Ne.symm hab]
    · by_cases h2 : i = a
      · subst h2
        simp [h1]
      · simp [h1, h2]
  rw [e]
  by_cases h1 : i = b
  · subst h1
    simp only [if_true, bitI_or]
    rw [bitI_bt1 (by omega) (by omega)]
    simp [Ne.symm hab]
  · by_cases h2 : i = a
    · subst h2
      simp only [h1, if_false, if_true, bitI_or]
      rw [bitI_bt1 (by omega) (by omega)]
      simp [h1]
    · simp [h1, h2]
theorem Sym.lay {k : Nat} (hk : k ≤ 12) {f : Nat → Int32} (h : Sym k f) {a b : Nat} (hab : a ≠ b) (ha : a < k) (hb : b < k) : Sym k (lay1 f a b) := by
  intro i j hi hj
  rw [lay1_bit hk f hab ha hb hi hj, lay1_bit hk f hab ha hb hj hi, h i j hi hj]
  cases bitI (f j) i <;> simp [Bool.or_comm, Bool.and_comm]
theorem dI_sym {k : Nat} (hk : k ≤ 12) {od : Int32} {a : Nat} (ha : a < k) {p : (Nat → Int32) × Int32} (h : Sym k p.1) : ∀ m, a + 1 + m ≤ k → Sym k (dI od a p m).1
  | 0, _ => h
  | m + 1, hm => by
    have h1 := dI_sym hk ha h m (by omega) (od := od)
    show Sym k (dst od a (a + 1 + m) (dI od a p m)).1
    unfold dst
    by_cases c : od ≤ zr (dI od a p m).2
    · rw [if_pos c]
      exact h1
    · rw [if_neg c]
      exact h1.lay hk (by omega) ha (by omega)
theorem dO_sym {k : Nat} (hk : k ≤ 12) {od z : Int32} : ∀ a, a ≤ k → Sym k (dO od k z a).1
  | 0, _ => fun a b _ _ => by
    show (0#32).getLsbD b = (0#32).getLsbD a
    simp
  | a + 1, ha => dI_sym hk (by omega) (dO_sym hk a (by omega)) (k - (a + 1)) (by omega)
/-- lines of a net of k points, by its rows -/
def adjK (k : Nat) (f : Nat → Int32) (a b : Nat) : Bool := decide (a < k) && decide (b < k) && bitI (f a) b
theorem adjK_like {k : Nat} {f g : Nat → Int32} (h : Like k f g) : adjK k f = adjK k g := by
  funext a b
  unfold adjK
  by_cases ha : a < k
  · rw [h a ha]
  · simp [ha]
theorem adjK_sym {k : Nat} {f : Nat → Int32} (h : Sym k f) (a b : Nat) : adjK k f a b = adjK k f b a := by
  unfold adjK
  by_cases ha : a < k
  · by_cases hb : b < k
    · rw [h a b ha hb]
      simp [ha, hb]
    · simp [hb]
  · simp [ha]
/-- how many lines a greatest pairing of the set s has -/
def nuS (k : Nat) (f : Nat → Int32) (s : Nat) : Nat := nu (adjK k f) k (tb s)
theorem nuS_like {k : Nat} {f g : Nat → Int32} (h : Like k f g) (s : Nat) : nuS k f s = nuS k g s := by
  unfold nuS
  rw [adjK_like h]
theorem tb_rm {k s q : Nat} (hk : k ≤ 12) : ∀ i, i < k → tb (rmN s q) i = nrm (tb s) q i := fun i hi => by
  show (rmN s q).testBit i = if i = q then false else s.testBit i
  rw [rmN_bit (by omega)]
  by_cases h : i = q
  · simp [h]
  · simp [h]
theorem nuS_rm {k : Nat} (hk : k ≤ 12) (f : Nat → Int32) (s q : Nat) : nuS k f (rmN s q) = nu (adjK k f) k (nrm (tb s) q) := nu_cong _ (tb_rm hk)
theorem nuS_rm2 {k : Nat} (hk : k ≤ 12) (f : Nat → Int32) (s p q : Nat) : nuS k f (rmN (rmN s p) q) = nu (adjK k f) k (nrm (nrm (tb s) p) q) := nu_cong _ (fun i hi => by
  rw [tb_rm hk i hi]
  by_cases h : i = q
  · rw [h, nrm_eq, nrm_eq]
  · rw [nrm_ne h, nrm_ne h, tb_rm hk i hi])
/-- the lowest point first: m of the points behind it looked at -/
def runM (k : Nat) (f : Nat → Int32) (s : Nat) : Nat → Nat
  | 0 => nuS k f (rmN s (lo s))
  | m + 1 => if (rmN s (lo s)).testBit (lo s + 1 + m) && bitI (f (lo s)) (lo s + 1 + m) then max (runM k f s m) (1 + nuS k f (rmN (rmN s (lo s)) (lo s + 1 + m))) else runM k f s m
theorem runM_end {k : Nat} (hk : k ≤ 12) {f : Nat → Int32} (hs : Sym k f) {s : Nat} (h : s < 2 ^ k) (h0 : s ≠ 0) : runM k f s (k - (lo s + 1)) = nuS k f s := by
  have h4 : s < 4096 := Nat.lt_of_lt_of_le h (Nat.pow_le_pow_right (by decide) hk : 2 ^ k ≤ 2 ^ 12)
  obtain ⟨l1, l2, l3⟩ := lo_of h4 h0
  have hlk : lo s < k := by
    rcases Nat.lt_or_ge (lo s) k with q | q
    · exact q
    · have := Nat.testBit_lt_two_pow (Nat.lt_of_lt_of_le h (Nat.pow_le_pow_right (by decide) q))
      rw [this] at l2
      cases l2
  obtain ⟨a1, a2, a3⟩ := nu_any (adjK_sym hs) k (tb s) (lo s) hlk l2
  have key : ∀ m, lo s + 1 + m ≤ k → runM k f s m ≤ nuS k f s ∧ nuS k f (rmN s (lo s)) ≤ runM k f s m ∧ ∀ q, lo s < q → q < lo s + 1 + m → tb s q = true → adjK k f (lo s) q = true → 1 + nu (adjK k f) k (nrm (nrm (tb s) (lo s)) q) ≤ runM k f s m := by
    intro m
    induction m with
    | zero =>
      intro _
      refine ⟨by show nuS k f (rmN s (lo s)) ≤ _; rw [nuS_rm hk]; exact a1, Nat.le_refl _, fun q h1 h2 => absurd h2 (by omega)⟩
    | succ m ih =>
      intro hm
      obtain ⟨i1, i2, i3⟩ := ih (by omega)
      have bt : (rmN s (lo s)).testBit (lo s + 1 + m) = tb s (lo s + 1 + m) := by
        rw [rmN_bit (by omega)]
        simp [tb]
        omega
      have ad : adjK k f (lo s) (lo s + 1 + m) = bitI (f (lo s)) (lo s + 1 + m) := by
        unfold adjK
        simp [hlk, show lo s + 1 + m < k by omega]
      have er : runM k f s (m + 1) = if (rmN s (lo s)).testBit (lo s + 1 + m) && bitI (f (lo s)) (lo s + 1 + m) then max (runM k f s m) (1 + nuS k f (rmN (rmN s (lo s)) (lo s + 1 + m))) else runM k f s m := rfl
      rw [bt, ← ad] at er
      rw [er]
      by_cases c : (tb s (lo s + 1 + m) && adjK k f (lo s) (lo s + 1 + m)) = true
      · rw [if_pos c]
        have c' := (Bool.and_eq_true _ _).mp c
        refine ⟨Nat.max_le.mpr ⟨i1, ?_⟩, Nat.le_trans i2 (Nat.le_max_left _ _), fun q h1 h2 h3 h5 => ?_⟩
        · rw [nuS_rm2 hk]
          exact a2 _ (by omega) c'.1 (by omega) c'.2
        · by_cases e : q = lo s + 1 + m
          · subst e
            rw [← nuS_rm2 hk]
            exact Nat.le_max_right _ _
          · exact Nat.le_trans (i3 q h1 (by omega) h3 h5) (Nat.le_max_left _ _)
      · rw [if_neg c]
        refine ⟨i1, i2, fun q h1 h2 h3 h5 => ?_⟩
        by_cases e : q = lo s + 1 + m
        · subst e
          exact absurd (by rw [h3, h5]; rfl) c
        · exact i3 q h1 (by omega) h3 h5
  obtain ⟨k1, k2, k3⟩ := key (k - (lo s + 1)) (by omega)
  refine Nat.le_antisymm k1 (a3 _ (by rw [← nuS_rm hk]; exact k2) (fun q hq hSq hne ha => ?_))
  have hlt : lo s < q := by
    rcases Nat.lt_or_ge (lo s) q with z | z
    · exact z
    · have := lo_least (s := s) (i := q) (by omega)
      rw [show tb s q = s.testBit q from rfl, this] at hSq
      cases hSq
  exact k3 q hlt (by omega) hSq ha
theorem nu_high {adj : Nat → Nat → Bool} {m : Nat} {S : Nat → Bool} : ∀ {k : Nat}, m ≤ k → (∀ i, m ≤ i → i < k → S i = false) → nu adj k S = nu adj m S := by
  intro k
  induction k with
  | zero => intro h _; rw [show m = 0 by omega]
  | succ k ih =>
    intro hm h
    by_cases e : m = k + 1
    · rw [e]
    · rw [nu_out (h k (by omega) (by omega)), ih (by omega) (fun i h1 h2 => h i h1 (by omega))]
set_option maxRecDepth 1000000 in
theorem hi_all : (List.range 4096).all (fun s => decide (s < 2 ∨ (Nat.log2 s < 12 ∧ 1 ≤ Nat.log2 s ∧ s.testBit (Nat.log2 s) = true ∧ s < 2 ^ (Nat.log2 s + 1)))) = true := by decide +kernel
theorem hi_of {s : Nat} (h : s < 4096) (h2 : 2 ≤ s) : Nat.log2 s < 12 ∧ 1 ≤ Nat.log2 s ∧ s.testBit (Nat.log2 s) = true ∧ s < 2 ^ (Nat.log2 s + 1) := (co_dec (P := fun s => s < 2 ∨ (Nat.log2 s < 12 ∧ 1 ≤ Nat.log2 s ∧ s.testBit (Nat.log2 s) = true ∧ s < 2 ^ (Nat.log2 s + 1))) hi_all h).resolve_left (by omega)
theorem ncn_high {S : Nat → Bool} {m : Nat} : ∀ {k : Nat}, m ≤ k → (∀ i, m ≤ i → i < k → S i = false) → ncn S k = ncn S m := by
  intro k
  induction k with
  | zero => intro h _; rw [show m = 0 by omega]
  | succ k ih =>
    intro hm h
    by_cases e : m = k + 1
    · rw [e]
    · show ncn S k + (if S k then 1 else 0) = _
      rw [h k (by omega) (by omega), ih (by omega) (fun i h1 h2 => h i h1 (by omega))]
      rfl
/-- the greatest point first: what the answer is by what is left -/
theorem top_rec {k : Nat} (hk : k ≤ 12) {f : Nat → Int32} (hs : Sym k f) {s : Nat} (h : s < 2 ^ k) (h2 : 2 ≤ s) :
    (nuS k f (rmN s (Nat.log2 s)) ≤ nuS k f s ∧ nuS k f s ≤ nuS k f (rmN s (Nat.log2 s)) + 1) ∧
    (∀ q, q < Nat.log2 s → s.testBit q = true → bitI (f (Nat.log2 s)) q = true → nuS k f (rmN (rmN s (Nat.log2 s)) q) = nuS k f (rmN s (Nat.log2 s)) → nuS k f s = nuS k f (rmN s (Nat.log2 s)) + 1) ∧
    ((∀ q, q < Nat.log2 s → s.testBit q = true → bitI (f (Nat.log2 s)) q = true → nuS k f (rmN (rmN s (Nat.log2 s)) q) ≠ nuS k f (rmN s (Nat.log2 s))) → nuS k f s = nuS k f (rmN s (Nat.log2 s))) ∧
    2 * nuS k f s ≤ ncn (tb s) 12 := by
  have h4 : s < 4096 := Nat.lt_of_lt_of_le h (Nat.pow_le_pow_right (by decide) hk : 2 ^ k ≤ 2 ^ 12)
  obtain ⟨l1, l0, l2, l3⟩ := hi_of h4 h2
  have above : ∀ i, Nat.log2 s < i → s.testBit i = false := fun i hi => Nat.testBit_lt_two_pow (Nat.lt_of_lt_of_le l3 (Nat.pow_le_pow_right (by decide) hi))
  have hlk : Nat.log2 s < k := by
    rcases Nat.lt_or_ge (Nat.log2 s) k with q | q
    · exact q
    · have := Nat.testBit_lt_two_pow (Nat.lt_of_lt_of_le h (Nat.pow_le_pow_right (by decide) q))
      rw [this] at l2
      cases l2
  have asym := adjK_sym hs
  obtain ⟨a1, a2, a3⟩ := nu_any asym k (tb s) (Nat.log2 s) hlk l2
  have o1 := nu_one asym hlk (S := tb s) l2
  have ad : ∀ q, q < k → adjK k f (Nat.log2 s) q = bitI (f (Nat.log2 s)) q := fun q hq => by
    unfold adjK
    simp [hlk, hq]
  rw [nuS_rm hk]
  refine ⟨⟨a1, o1⟩, fun q hq hb ha e => ?_, fun hn => ?_, ?_⟩
  · rw [nuS_rm2 hk] at e
    have t := a2 q (by omega) hb (by omega) (by rw [ad q (by omega)]; exact ha)
    have o2 : nuS k f s ≤ nu (adjK k f) k (nrm (tb s) (Nat.log2 s)) + 1 := o1
    have t2 : 1 + nu (adjK k f) k (nrm (nrm (tb s) (Nat.log2 s)) q) ≤ nuS k f s := t
    omega
  · refine Nat.le_antisymm (a3 _ (Nat.le_refl _) (fun q hq hb hne ha => ?_)) a1
    have hql : q < Nat.log2 s := by
      rcases Nat.lt_or_ge (Nat.log2 s) q with z | z
      · have := above q z
        rw [show tb s q = s.testBit q from rfl, this] at hb
        cases hb
      · omega
    have n1 := hn q hql hb (by rw [← ad q hq]; exact ha)
    rw [nuS_rm2 hk] at n1
    have n2 := (nu_any asym k (nrm (tb s) (Nat.log2 s)) q hq (by rw [nrm_ne hne]; exact hb)).1
    omega
  · have e : ncn (tb s) 12 = ncn (tb s) k := ncn_high hk (fun i h1 _ => Nat.testBit_lt_two_pow (Nat.lt_of_lt_of_le h (Nat.pow_le_pow_right (by decide) h1)))
    rw [e]
    exact nu_two _ k (tb s)
theorem nuS_small {k : Nat} (f : Nat → Int32) {s : Nat} (h : s < 2) : nuS k f s = 0 := by
  have hz : ∀ i, 1 ≤ i → i < k → tb s i = false := fun i h1 _ => Nat.testBit_lt_two_pow (Nat.lt_of_lt_of_le h (Nat.pow_le_pow_right (by decide) h1 : 2 ^ 1 ≤ 2 ^ i))
  unfold nuS
  rcases Nat.eq_zero_or_pos k with e | e
  · rw [e]
    rfl
  · rw [nu_high (m := 1) e hz]
    show (if tb s 0 then max 0 0 else 0) = 0
    split <;> rfl
