
/-! greatest pairings, by numbers alone: nu adj k S is how many lines a greatest pairing of the points below k that S holds has -/
def nrm (S : Nat → Bool) (q : Nat) : Nat → Bool := fun i => if i = q then false else S i
def mx (f : Nat → Nat) : Nat → Nat
  | 0 => 0
  | k + 1 => max (mx f k) (f k)
def nu (adj : Nat → Nat → Bool) : Nat → (Nat → Bool) → Nat
  | 0, _ => 0
  | k + 1, S => if S k then max (nu adj k S) (mx (fun q => if S q && adj k q then 1 + nu adj k (nrm S q) else 0) k) else nu adj k S
theorem mx_le {f : Nat → Nat} {B : Nat} : ∀ {k : Nat}, (∀ q, q < k → f q ≤ B) → mx f k ≤ B
  | 0, _ => Nat.zero_le _
  | k + 1, h => Nat.max_le.mpr ⟨mx_le (fun q hq => h q (by omega)), h k (by omega)⟩
theorem le_mx {f : Nat → Nat} {q : Nat} : ∀ {k : Nat}, q < k → f q ≤ mx f k
  | 0, h => absurd h (by omega)
  | k + 1, h => by
    show f q ≤ max (mx f k) (f k)
    rcases Nat.lt_or_ge q k with h1 | h1
    · exact Nat.le_trans (le_mx h1) (Nat.le_max_left _ _)
    · have e : q = k := by omega
      subst e
      exact Nat.le_max_right _ _
theorem mx_cong {f g : Nat → Nat} : ∀ {k : Nat}, (∀ q, q < k → f q = g q) → mx f k = mx g k
  | 0, _ => rfl
  | k + 1, h => by
    show max (mx f k) (f k) = max (mx g k) (g k)
    rw [mx_cong (fun q hq => h q (by omega)), h k (by omega)]
theorem nrm_ne {S : Nat → Bool} {q i : Nat} (h : i ≠ q) : nrm S q i = S i := by simp [nrm, h]
theorem nrm_eq {S : Nat → Bool} {q : Nat} : nrm S q q = false := by simp [nrm]
theorem nrm_comm (S : Nat → Bool) (p q : Nat) : nrm (nrm S p) q = nrm (nrm S q) p := by
  funext i
  by_cases h1 : i = p <;> by_cases h2 : i = q <;> simp [nrm, h1, h2]
theorem nrm_in {S : Nat → Bool} {q i : Nat} (h : nrm S q i = true) : i ≠ q ∧ S i = true := by
  by_cases h1 : i = q
  · rw [h1, nrm_eq] at h
    cases h
  · rw [nrm_ne h1] at h
    exact ⟨h1, h⟩
theorem nu_cong (adj : Nat → Nat → Bool) : ∀ {k : Nat} {S T : Nat → Bool}, (∀ i, i < k → S i = T i) → nu adj k S = nu adj k T
  | 0, _, _, _ => rfl
  | k + 1, S, T, h => by
    have h1 : nu adj k S = nu adj k T := nu_cong adj (fun i hi => h i (by omega))
    have h2 : mx (fun q => if S q && adj k q then 1 + nu adj k (nrm S q) else 0) k = mx (fun q => if T q && adj k q then 1 + nu adj k (nrm T q) else 0) k := by
      apply mx_cong
      intro q hq
      have e : nu adj k (nrm S q) = nu adj k (nrm T q) := nu_cong adj (fun i hi => by
        by_cases hi2 : i = q
        · rw [hi2, nrm_eq, nrm_eq]
        · rw [nrm_ne hi2, nrm_ne hi2, h i (by omega)])
      simp only [h q (by omega), e]
    show (if S k then max (nu adj k S) _ else nu adj k S) = if T k then max (nu adj k T) _ else nu adj k T
    rw [h k (by omega), h1, h2]
theorem nu_out {adj : Nat → Nat → Bool} {k : Nat} {S : Nat → Bool} (h : S k = false) : nu adj (k + 1) S = nu adj k S := by
  show (if S k then _ else _) = _
  rw [h]
  rfl
theorem nu_in {adj : Nat → Nat → Bool} {k : Nat} {S : Nat → Bool} (h : S k = true) : nu adj (k + 1) S = max (nu adj k S) (mx (fun q => if S q && adj k q then 1 + nu adj k (nrm S q) else 0) k) := by
  show (if S k then _ else _) = _
  rw [h]
  rfl
theorem nu_up {adj : Nat → Nat → Bool} {k : Nat} {S : Nat → Bool} : nu adj k S ≤ nu adj (k + 1) S := by
  cases h : S k
  · rw [nu_out h]
    exact Nat.le_refl _
  · rw [nu_in h]
    exact Nat.le_max_left _ _
theorem nu_term {adj : Nat → Nat → Bool} {k r : Nat} {S : Nat → Bool} (hk : S k = true) (hr : r < k) (h : S r = true) (ha : adj k r = true) : 1 + nu adj k (nrm S r) ≤ nu adj (k + 1) S := by
  rw [nu_in hk]
  refine Nat.le_trans ?_ (Nat.le_max_right _ _)
  have h1 := le_mx (f := fun q => if S q && adj k q then 1 + nu adj k (nrm S q) else 0) hr
  simp only [h, ha, Bool.and_true, if_true] at h1
  exact h1
theorem nu_below {adj : Nat → Nat → Bool} {k B : Nat} {S : Nat → Bool} (hk : S k = true) (h1 : nu adj k S ≤ B) (h2 : ∀ r, r < k → S r = true → adj k r = true → 1 + nu adj k (nrm S r) ≤ B) : nu adj (k + 1) S ≤ B := by
  rw [nu_in hk]
  refine Nat.max_le.mpr ⟨h1, mx_le (fun q hq => ?_)⟩
  cases hs : S q
  · simp
  · cases ha : adj k q
    · simp
    · simp only [Bool.and_true, if_true]
      exact h2 q hq hs ha
/-- any point may be looked at first -/
theorem nu_any {adj : Nat → Nat → Bool} (hs : ∀ a b, adj a b = adj b a) : ∀ (k : Nat) (S : Nat → Bool) (p : Nat), p < k → S p = true →
    nu adj k (nrm S p) ≤ nu adj k S ∧ (∀ q, q < k → S q = true → q ≠ p → adj p q = true → 1 + nu adj k (nrm (nrm S p) q) ≤ nu adj k S) ∧
    ∀ B, nu adj k (nrm S p) ≤ B → (∀ q, q < k → S q = true → q ≠ p → adj p q = true → 1 + nu adj k (nrm (nrm S p) q) ≤ B) → nu adj k S ≤ B := by
  intro k
  induction k with
  | zero => intro S p hp; exact absurd hp (by omega)
  | succ k ih =>
    intro S p hp hSp
    by_cases hpk : p = k
    · subst hpk
      have e0 : nu adj (p + 1) (nrm S p) = nu adj p S := by
        rw [nu_out nrm_eq]
        exact nu_cong adj (fun i hi => nrm_ne (by omega))
      have eq : ∀ q, q < p → nu adj (p + 1) (nrm (nrm S p) q) = nu adj p (nrm S q) := fun q hq => by
        rw [nu_out (by rw [nrm_ne (by omega), nrm_eq])]
        refine nu_cong adj (fun i hi => ?_)
        by_cases h : i = q
        · rw [h, nrm_eq, nrm_eq]
        · rw [nrm_ne h, nrm_ne h, nrm_ne (by omega)]
      refine ⟨?_, ?_, ?_⟩
      · rw [e0]
        exact nu_up
      · intro q hq hSq hne ha
        rw [eq q (by omega)]
        exact nu_term hSp (by omega) hSq ha
      · intro B h1 h2
        rw [e0] at h1
        exact nu_below hSp h1 (fun r hr hSr ha => by
          have h3 := h2 r (by omega) hSr (by omega) ha
          rw [eq r hr] at h3
          exact h3)
    · have hp' : p < k := by omega
      cases hk : S k
      · have o1 : nu adj (k + 1) (nrm S p) = nu adj k (nrm S p) := nu_out (by rw [nrm_ne (by omega)]; exact hk)
        have o2 : nu adj (k + 1) S = nu adj k S := nu_out hk
        have o3 : ∀ q, nu adj (k + 1) (nrm (nrm S p) q) = nu adj k (nrm (nrm S p) q) := fun q => nu_out (by
          by_cases h : k = q
          · rw [h, nrm_eq]
          · rw [nrm_ne h, nrm_ne (by omega)]
            exact hk)
        obtain ⟨i1, i2, i3⟩ := ih S p hp' hSp
        have qk : ∀ q, q < k + 1 → S q = true → q < k := fun q hq hSq => by
          rcases Nat.lt_or_ge q k with h | h
          · exact h
          · have e : q = k := by omega
            rw [e, hk] at hSq
            cases hSq
        refine ⟨by rw [o1, o2]; exact i1, fun q hq hSq hne ha => by rw [o2, o3]; exact i2 q (qk q hq hSq) hSq hne ha, fun B h1 h2 => ?_⟩
        rw [o2]
        rw [o1] at h1
        exact i3 B h1 (fun q hq hSq hne ha => by
          have h3 := h2 q (by omega) hSq hne ha
          rw [o3] at h3
          exact h3)
      · obtain ⟨i1, i2, i3⟩ := ih S p hp' hSp
        have hTk : nrm S p k = true := by rw [nrm_ne (by omega)]; exact hk
        refine ⟨?_, ?_, ?_⟩
        · refine nu_below hTk (Nat.le_trans i1 nu_up) (fun r hr hTr ha => ?_)
          obtain ⟨hrp, hSr⟩ := nrm_in hTr
          have j1 := (ih (nrm S r) p hp' (by rw [nrm_ne (by omega)]; exact hSp)).1
          rw [nrm_comm] at j1
          exact Nat.le_trans (by omega) (nu_term hk hr hSr ha)
        · intro q hq hSq hne ha
          by_cases hqk : q = k
          · subst hqk
            have e : nu adj (q + 1) (nrm (nrm S p) q) = nu adj q (nrm S p) := by
              rw [nu_out nrm_eq]
              exact nu_cong adj (fun i hi => nrm_ne (by omega))
            rw [e]
            exact nu_term hk hp' hSp (by rw [hs]; exact ha)
          · have hq' : q < k := by omega
            have b1 : 1 + nu adj k (nrm (nrm S p) q) ≤ nu adj (k + 1) S := Nat.le_trans (i2 q hq' hSq hne ha) nu_up
            have hUk : nrm (nrm S p) q k = true := by rw [nrm_ne (by omega)]; exact hTk
            have b2 : nu adj (k + 1) (nrm (nrm S p) q) ≤ nu adj (k + 1) S - 1 := by
              refine nu_below hUk (by omega) (fun r hr hUr ha2 => ?_)
              obtain ⟨hrq, hTr⟩ := nrm_in hUr
              obtain ⟨hrp, hSr⟩ := nrm_in hTr
              have j2 := (ih (nrm S r) p hp' (by rw [nrm_ne (by omega)]; exact hSp)).2.1 q hq' (by rw [nrm_ne (by omega)]; exact hSq) hne ha
              have e : nrm (nrm (nrm S r) p) q = nrm (nrm (nrm S p) q) r := by rw [nrm_comm S r p, nrm_comm (nrm S p) r q]
              rw [e] at j2
              have t := nu_term hk hr hSr ha2
              omega
            omega
        · intro B h1 h2
          refine nu_below hk ?_ (fun r hr hSr ha => ?_)
          · refine i3 B (Nat.le_trans nu_up h1) (fun q hq hSq hne ha => ?_)
            have u := nu_up (adj := adj) (k := k) (S := nrm (nrm S p) q)
            have h3 := h2 q (by omega) hSq hne ha
            omega
          · by_cases hrp : r = p
            · subst hrp
              have h3 := h2 k (by omega) hk (by omega) (by rw [hs]; exact ha)
              have e : nu adj (k + 1) (nrm (nrm S r) k) = nu adj k (nrm S r) := by
                rw [nu_out nrm_eq]
                exact nu_cong adj (fun i hi => nrm_ne (by omega))
              rw [e] at h3
              exact h3
            · have t1 := nu_term (S := nrm S p) hTk hr (by rw [nrm_ne hrp]; exact hSr) ha
              have hB : 1 ≤ B := by omega
              have j3 := (ih (nrm S r) p hp' (by rw [nrm_ne (by omega)]; exact hSp)).2.2 (B - 1) (by rw [nrm_comm]; omega) (fun q hq hSq hne ha2 => ?_)
              · omega
              · obtain ⟨hqr, hSq2⟩ := nrm_in hSq
                have h3 := h2 q (by omega) hSq2 hne ha2
                have hUk : nrm (nrm S p) q k = true := by rw [nrm_ne (by omega)]; exact hTk
                have t2 := nu_term (S := nrm (nrm S p) q) hUk hr (by rw [nrm_ne (by omega), nrm_ne hrp]; exact hSr) ha
                have e : nrm (nrm (nrm S r) p) q = nrm (nrm (nrm S p) q) r := by rw [nrm_comm S r p, nrm_comm (nrm S p) r q]
                rw [e]
                omega
theorem nu_one {adj : Nat → Nat → Bool} (hs : ∀ a b, adj a b = adj b a) {k p : Nat} {S : Nat → Bool} (hp : p < k) (h : S p = true) : nu adj k S ≤ nu adj k (nrm S p) + 1 := by
  refine (nu_any hs k S p hp h).2.2 _ (by omega) (fun q hq hSq hne _ => ?_)
  have h2 := (nu_any hs k (nrm S p) q hq (by rw [nrm_ne hne]; exact hSq)).1
  omega
theorem ncn_cong {S T : Nat → Bool} : ∀ {k : Nat}, (∀ i, i < k → S i = T i) → ncn S k = ncn T k
  | 0, _ => rfl
  | k + 1, h => by
    show ncn S k + _ = ncn T k + _
    rw [ncn_cong (fun i hi => h i (by omega)), h k (by omega)]
theorem ncn_rm {S : Nat → Bool} {q : Nat} (h : S q = true) : ∀ {k : Nat}, q < k → ncn (nrm S q) k + 1 = ncn S k
  | 0, hq => absurd hq (by omega)
  | k + 1, hq => by
    show ncn (nrm S q) k + (if nrm S q k then 1 else 0) + 1 = ncn S k + (if S k then 1 else 0)
    by_cases e : q = k
    · subst e
      rw [nrm_eq, h, ncn_cong (S := nrm S q) (T := S) (fun i hi => nrm_ne (by omega))]
      rfl
    · rw [nrm_ne (by omega), ← ncn_rm h (k := k) (by omega)]
      omega
theorem nu_two (adj : Nat → Nat → Bool) : ∀ (k : Nat) (S : Nat → Bool), 2 * nu adj k S ≤ ncn S k := by
  intro k
  induction k with
  | zero => intro S; exact Nat.le_refl _
  | succ k ih =>
    intro S
    cases h : S k
    · rw [nu_out h]
      exact Nat.le_trans (ih S) (by show ncn S k ≤ ncn S k + _; omega)
    · have e : ncn S (k + 1) = ncn S k + 1 := by
        show ncn S k + (if S k then 1 else 0) = _
        rw [h]
        rfl
      have b : nu adj (k + 1) S ≤ (ncn S k + 1) / 2 := nu_below h (by have := ih S; omega) (fun r hr hSr _ => by
        have h1 := ih (nrm S r)
        have h2 := ncn_rm hSr hr
        omega)
      omega
