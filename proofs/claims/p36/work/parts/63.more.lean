theorem fa_or (a b : Nat) : nI a ||| nI b = nI (a ||| b) := by
  apply Int32.toBitVec_inj.1
  show BitVec.ofNat 32 a ||| BitVec.ofNat 32 b = BitVec.ofNat 32 (a ||| b)
  apply BitVec.eq_of_getLsbD_eq
  intro i hi
  simp [hi]
/-- all rows are numbers below 4096 -/
def Lo (k : Nat) (f : Nat → Int32) : Prop := ∀ j, j < k → ∃ v, v < 4096 ∧ f j = nI v
