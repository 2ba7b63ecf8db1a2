theorem Lo.lay {k : Nat} (hk : k ≤ 12) {f : Nat → Int32} (h : Lo k f) {a b : Nat} (ha : a < k) (hb : b < k) : Lo k (lay1 f a b) := by
  have orl : ∀ {x : Int32} {c : Nat}, c < 12 → (∃ v, v < 4096 ∧ x = nI v) → ∃ v, v < 4096 ∧ x ||| bt1 c = nI v := fun {x c} hc hv => by
    obtain ⟨v, hv, rfl⟩ := hv
    refine ⟨v ||| 2 ^ c, ?_, by rw [bt1_eq c hc, fa_or]⟩
    exact Nat.or_lt_two_pow (n := 12) hv (Nat.pow_lt_pow_right (by decide) hc)
  have h1 : ∀ j, j < k → ∃ v, v < 4096 ∧ upd f a (f a ||| bt1 b) j = nI v := fun j hj => by
    simp only [upd]
    split
    · exact orl (by omega) (h a ha)
    · exact h j hj
  intro j hj
  simp only [lay1]
  show ∃ v, v < 4096 ∧ (if j = b then _ else _) = nI v
  split
  · exact orl (by omega) (h1 b hb)
  · exact h1 j hj
theorem dI_lo {k : Nat} (hk : k ≤ 12) {od : Int32} {a : Nat} (ha : a < k) {p : (Nat → Int32) × Int32} (h : Lo k p.1) : ∀ m, a + 1 + m ≤ k → Lo k (dI od a p m).1
  | 0, _ => h
  | m + 1, hm => by
    have h1 := dI_lo hk ha h m (by omega) (od := od)
    show Lo k (dst od a (a + 1 + m) (dI od a p m)).1
    unfold dst
    by_cases c : od ≤ zr (dI od a p m).2
    · rw [if_pos c]
      exact h1
    · rw [if_neg c]
      exact h1.lay hk ha (by omega)
theorem dO_lo {k : Nat} (hk : k ≤ 12) {od z : Int32} : ∀ a, a ≤ k → Lo k (dO od k z a).1
  | 0, _ => fun j _ => ⟨0, by decide, rfl⟩
  | a + 1, ha => dI_lo hk (by omega) (dO_lo hk a (by omega)) (k - (a + 1)) (by omega)
theorem Lo.like {k : Nat} {f g : Nat → Int32} (h : Lo k g) (e : Like k f g) : Lo k f := fun j hj => by rw [e j hj]; exact h j hj
theorem PO.lo {n od z0 z a : Int32} {f : Nat → Int32} {k : Nat} (h : PO n od z0 f z a) (ha : a.toInt = n.toInt) (hn : n = nI k) (hk : k ≤ 12) : Lo k f :=
  (dO_lo hk k (Nat.le_refl k)).like (h.like ha hn hk).1
theorem PO.sym {n od z0 z a : Int32} {f : Nat → Int32} {k : Nat} (h : PO n od z0 f z a) (ha : a.toInt = n.toInt) (hn : n = nI k) (hk : k ≤ 12) : Sym k f := by
  have h1 := (h.like ha hn hk).1
  have h2 := dO_sym hk (od := od) (z := z0) k (Nat.le_refl k)
  intro i j hi hj
  rw [h1 i hi, h1 j hj]
  exact h2 i j hi hj
theorem PO.nu {n od z0 z a : Int32} {f : Nat → Int32} {k : Nat} (h : PO n od z0 f z a) (ha : a.toInt = n.toInt) (hn : n = nI k) (hk : k ≤ 12) (s : Nat) : nuS k f s = nuS k (dO od k z0 k).1 s :=
  nuS_like (h.like ha hn hk).1 s
