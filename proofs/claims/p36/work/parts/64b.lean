/-! a net that is dealt, by numbers -/
theorem layI_n (f : Nat → Int32) {a b : Nat} (ha : a ≤ 12) (hb : b ≤ 12) : layI f (nI a) (nI b) = lay1 f a b := by
  unfold layI lm lay1 bt1
  rw [nI_cl (by omega), nI_cl (by omega)]
theorem dstp_n (od : Int32) (p : (Nat → Int32) × Int32) {a b : Nat} (ha : a ≤ 12) (hb : b ≤ 12) : dstp od (nI a) (nI b) p = dst od a b p := by
  unfold dstp dst
  rw [layI_n p.1 ha hb]
  have e : remT (drw p.2) = zr p.2 := rfl
  rw [e]
  by_cases h : od ≤ zr p.2
  · rw [if_pos h, if_neg (Int32.not_lt.mpr h)]
    rfl
  · rw [if_neg h, if_pos (Int32.not_le.mp h)]
    rfl
theorem pin_n (od : Int32) (p : (Nat → Int32) × Int32) {a : Nat} (ha : a ≤ 12) : ∀ m, a + m ≤ 12 → pin od (nI a) p m = dI od a p m
  | 0, _ => rfl
  | m + 1, h => by
    show dstp od (nI a) (nI ((nI a).toNatClampNeg + 1 + m)) (pin od (nI a) p m) = dst od a (a + 1 + m) (dI od a p m)
    rw [nI_cl (by omega), pin_n od p ha m (by omega), dstp_n od _ ha (by omega)]
theorem pout_n (od z : Int32) {n : Nat} (hn : n ≤ 12) : ∀ a, a ≤ n → pout od n z a = dO od n z a
  | 0, _ => rfl
  | a + 1, h => by
    show pin od (nI a) (pout od n z a) (n - 1 - a) = dI od a (dO od n z a) (n - (a + 1))
    rw [pout_n od z hn a (by omega), pin_n od _ (by omega) _ (by omega), show n - 1 - a = n - (a + 1) by omega]
theorem PO.like {n od z0 z a : Int32} {f : Nat → Int32} {k : Nat} (h : PO n od z0 f z a) (ha : a.toInt = n.toInt) (hn : n = nI k) (hk : k ≤ 12) : Like k f (dO od k z0 k).1 ∧ z = (dO od k z0 k).2 := by
  have e : a = n := Int32.toInt_inj.mp ha
  unfold PO at h
  rw [e, hn, nI_cl (by omega), pout_n od z0 hk k (Nat.le_refl k)] at h
  exact h
