
/-! nets by draws, by numbers alone -/
def lay1 (f : Nat → Int32) (a b : Nat) : Nat → Int32 := upd (upd f a (f a ||| bt1 b)) b (upd f a (f a ||| bt1 b) b ||| bt1 a)
def zs (z : Int32) : Int32 := z * (1103515245 : Int32) + (12345 : Int32)
def zd (z : Int32) : Int32 := (Int32.toUInt32 (zs z) >>> (Int32.toUInt32 16 &&& Int32.toUInt32 31)).toInt32
def zr (z : Int32) : Int32 := zd z - zd z / 10 * 10
def dst (odds : Int32) (a b : Nat) (p : (Nat → Int32) × Int32) : (Nat → Int32) × Int32 := (if odds ≤ zr p.2 then p.1 else lay1 p.1 a b, zs p.2)
/-- m inner steps of round a -/
def dI (odds : Int32) (a : Nat) (p : (Nat → Int32) × Int32) : Nat → (Nat → Int32) × Int32
  | 0 => p
  | m + 1 => dst odds a (a + 1 + m) (dI odds a p m)
/-- a rounds of k points -/
def dO (odds : Int32) (k : Nat) (z : Int32) : Nat → (Nat → Int32) × Int32
  | 0 => (fun _ => 0, z)
  | a + 1 => dI odds a (dO odds k z a) (k - (a + 1))
def Like (k : Nat) (f g : Nat → Int32) : Prop := ∀ j, j < k → f j = g j
theorem Like.lay {k : Nat} {f g : Nat → Int32} (h : Like k f g) {a b : Nat} (ha : a < k) (hb : b < k) : Like k (lay1 f a b) (lay1 g a b) := by
  intro j hj
  have e1 : ∀ i, i < k → upd f a (f a ||| bt1 b) i = upd g a (g a ||| bt1 b) i := fun i hi => by
    simp only [upd]
    split
    · rw [h a ha]
    · exact h i hi
  simp only [lay1]
  show (if j = b then _ else _) = (if j = b then _ else _)
  split
  · rw [e1 b hb]
  · exact e1 j hj
theorem lz_mask (x m : Int32) : (x &&& (m ^^^ (-1))) ||| m = x ||| m := by
  have h : ((x.toBitVec &&& (m.toBitVec ^^^ (-1 : Int32).toBitVec)) ||| m.toBitVec) = (x.toBitVec ||| m.toBitVec) := by
    apply BitVec.eq_of_getLsbD_eq
    intro i hi
    have h1 : ((-1 : Int32).toBitVec).getLsbD i = true := by
      have e : (-1 : Int32).toBitVec = BitVec.allOnes 32 := by decide
      rw [e, BitVec.getLsbD_allOnes]
      exact decide_eq_true hi
    simp only [BitVec.getLsbD_or, BitVec.getLsbD_and, BitVec.getLsbD_xor, h1]
    cases x.toBitVec.getLsbD i <;> cases m.toBitVec.getLsbD i <;> rfl
  exact Int32.toBitVec_inj.mp h
