/-! nets by draws, by numbers alone -/
def bt1 (j : Nat) : Int32 := (1 : Int32) <<< (nI j &&& 31)
def lay1 (f : Nat → Int32) (a b : Nat) : Nat → Int32 := upd (upd f a (f a ||| bt1 b)) b (upd f a (f a ||| bt1 b) b ||| bt1 a)
def zs (z : Int32) : Int32 := z * (1103515245 : Int32) + (12345 : Int32)
def zd (z : Int32) : Int32 := (Int32.toUInt32 (zs z) >>> (Int32.toUInt32 16 &&& Int32.toUInt32 31)).toInt32
def zr (z : Int32) : Int32 := zd z - zd z / 10 * 10
def dst (odds : Int32) (a b : Nat) (p : (Nat → Int32) × Int32) : (Nat → Int32) × Int32 := (if odds ≤ zr p.2 then p.1 else lay1 p.1 a b, zs p.2)
/-- m inner steps of round a -/
def dI (odds : Int32) (a : Nat) (p : (Nat → Int32) × Int32) : Nat → (Nat → Int32) × Int32
  | 0 => p
  | m + 1 => dst odds a (a + 1 + m) (dI odds a p m)
/-- a rounds of k points -/
def dO (odds : Int32) (k : Nat) (z : Int32) : Nat → (Nat → Int32) × Int32
  | 0 => (fun _ => 0, z)
  | a + 1 => dI odds a (dO odds k z a) (k - (a + 1))
def Like (k : Nat) (f g : Nat → Int32) : Prop := ∀ j, j < k → f j = g j
theorem Like.lay {k : Nat} {f g : Nat → Int32} (h : Like k f g) {a b : Nat} (ha : a < k) (hb : b < k) : Like k (lay1 f a b) (lay1 g a b) := by
  intro j hj
  have e1 : ∀ i, i < k → upd f a (f a ||| bt1 b) i = upd g a (g a ||| bt1 b) i := fun i hi => by
    simp only [upd]
    split
    · rw [h a ha]
    · exact h i hi
  simp only [lay1]
  show (if j = b then _ else _) = (if j = b then _ else _)
  split
  · rw [e1 b hb]
  · exact e1 j hj
theorem lz_mask (x m : Int32) : (x &&& (m ^^^ (-1))) ||| m = x ||| m := by
  have h : ((x.toBitVec &&& (m.toBitVec ^^^ (-1 : Int32).toBitVec)) ||| m.toBitVec) = (x.toBitVec ||| m.toBitVec) := by
    apply BitVec.eq_of_getLsbD_eq
    intro i hi
    have h1 : ((-1 : Int32).toBitVec).getLsbD i = true := by
      have e : (-1 : Int32).toBitVec = BitVec.allOnes 32 := by decide
      rw [e, BitVec.getLsbD_allOnes]
      exact decide_eq_true hi
    simp only [BitVec.getLsbD_or, BitVec.getLsbD_and, BitVec.getLsbD_xor, h1]
    cases x.toBitVec.getLsbD i <;> cases m.toBitVec.getLsbD i <;> rfl
  exact Int32.toBitVec_inj.mp h
section LW2
variable {p : Program} {l : Launch} {e : Env} {R : Room} {s : State} {m : MethodId} {args : Array Value} {below : List Frame} {meth : Method} {c : Code} {H : Heap} {locs : List Loc} {cells slots : Nat} {Q : State → Prop}
variable {pc : Nat} {ls : Array Slot} {rest st0 : List Value} {cc bytes : ByteArray} {nL maxL index n mc ms : Nat} {own : String} {y : MethodName} {ret : Option FieldType} {rm : Room} {Ts ws : List Cond} {D : va_G} {cI cS : ClassId} {wc : va_W} {b : Addr} {As : List Value} {ci : Nat} {q : vw_C} {fs : List Value}
/-- a place that is a number below the length -/
theorem lz_ald {tys : List (ClassId × FieldType)} {W0 : va_W} {a : Nat} (hexec : p.tables.exec = Jvm.exec) (hb : c.code = cc) (hK : va_K D cls tys s) (hP : va_P D cls W0 H) (q0 t0 : Nat) {cA : ClassId} {k : Nat} {f : Nat → Int32} (ha : W0[q0]? = some (a, .inl (cA, k, .inl f))) (ht : tys[t0]? = some (cA, .int)) (i : Nat) (hi : i < k ∧ k < 2 ^ 31) (hdg : decode cc pc = .ok (.iaload, 1))
    (kk : W p l e R s m args below meth c H locs cells slots Q (F0 m (pc + 1) ls (.int (f i) :: rest))) : W p l e R s m args below meth c H locs cells slots Q (F0 m pc ls (.int (nI i) :: .ref a :: rest)) := by
  refine va_iald hexec hb hK hP q0 t0 ha ht (vp_in_nI hi.1 hi.2) hdg ?_
  rw [nI_clamp (by omega)]
  exact kk
theorem lz_ast {tys : List (ClassId × FieldType)} {W0 : va_W} {A1 : Nat → Prop} {H2 : Heap} {a : Nat} (hexec : p.tables.exec = Jvm.exec) (hb : c.code = cc) (hK : va_K D cls tys s) (hP : va_P D cls W0 H) (hD : va_D A1 W0) (hS : va_S A1 H2 H locs) (q0 t0 : Nat) {cA : ClassId} {k : Nat} {f : Nat → Int32} {x : Int32} (ha : W0[q0]? = some (a, .inl (cA, k, .inl f))) (ht : tys[t0]? = some (cA, .int)) (i : Nat) (hi : i < k ∧ k < 2 ^ 31) (hdg : decode cc pc = .ok (.iastore, 1))
    (kk : ∀ (H1 : Heap) (locs1 : List Loc), va_P D cls (W0.set q0 (a, .inl (cA, k, .inl (upd f i x)))) H1 → va_D A1 (W0.set q0 (a, .inl (cA, k, .inl (upd f i x)))) → va_S A1 H2 H1 locs1 → W p l e R s m args below meth c H1 locs1 cells slots Q (F0 m (pc + 1) ls rest)) : W p l e R s m args below meth c H locs cells slots Q (F0 m pc ls (.int x :: .int (nI i) :: .ref a :: rest)) := by
  refine va_iast hexec hb hK hP hD hS q0 t0 ha ht (vp_in_nI hi.1 hi.2) hdg (fun H1 locs1 h1 h2 h3 => ?_)
  rw [nI_clamp (by omega)] at h1 h2
  exact kk H1 locs1 h1 h2 h3
variable {S : Type} {A : Nat → Prop} {H0 : Heap} {W0 wr : va_W} {w1 : S → va_W} {isC isR : List Nat} {pv : S → Prop} {pi : Int32 → S → Prop}
/-- a method that writes; what it leaves is told by a word of its own kind -/
abbrev QE {S : Type} (D : va_G) (ws : va_W) (w' : S → va_W) (sz : Nat) (post : S → Prop) : Array Value → State → Outcome → State → Prop := va_Qv post (fun u t => va_P D cls (w' u) t.heap ∧ va_D (va_A ws sz) (w' u)) (va_A ws sz)
abbrev QF {S : Type} (D : va_G) (ws : va_W) (w' : S → va_W) (sz : Nat) (post : Int32 → S → Prop) : Array Value → State → Outcome → State → Prop := va_Qi post (fun u t => va_P D cls (w' u) t.heap ∧ va_D (va_A ws sz) (w' u)) (va_A ws sz)
theorem lz_qe (F : CallFix p m c cc nL s args Ts own) (hM : Met l y ws rm (PQ D cI cS wc H.size (.ref b :: As)) (QE D wc w1 H.size pv) mc ms (va_A wc H.size)) (hK : KK D cI cS s) (hP : va_P D cls W0 H) (hD : va_D A W0) (hS : va_S A H0 H locs) (hA : ∀ q, H0.size ≤ q → A q)
    (isC isR : List Nat) (hnC : va_nd isC = true) (hC : isC.map (fun i => W0[i]?) = wc.map some) (hR : isR.map (fun i => W0[i]?) = wr.map some) (hnR : va_nd isR = true) (hdis : ∀ i ∈ isR, i ∉ isC) (hPc : va_P D cls wc H) (hDc : va_D A wc) (hc : cls[ci]? = some q) (he : wc[0]? = some (b, .inr (ci, fs)))
    (cw : CallW R s args own q.1 index y bytes maxL ret ws rm mc ms n) (hn : As.length = n) (hsize : ls.size = nL) (hst : st0 = As.reverse ++ .ref b :: rest) (hW : (rest.map fun v => v.category).sum ≤ 8) (hdg : decode cc pc = .ok (.invokevirtual index, 3)) (hf : cells + mc ≤ R.cells ∧ slots + ms ≤ R.slots)
    (kk : ∀ (u : S) (H1 : Heap) (locs1 : List Loc), pv u → va_P D cls (wr ++ w1 u) H1 → va_D A (wr ++ w1 u) → va_S A H0 H1 locs1 → W p l e R s m args below meth c H1 locs1 (cells + mc) (slots + ms) Q (F0 m (pc + 3) ls rest)) : W p l e R s m args below meth c H locs cells slots Q (F0 m pc ls st0) := by
  have hFc := va_free hD hS hA isC hC
  refine va_callv (va_runV (As := As) (rest := rest) F hM cw ⟨lz_bQ, va_recv hK.1 hPc hc he, fun U hU hW => ⟨rfl, by rw [hU], by rw [hU]; exact hPc, hK.warm hW, hDc.weaken (fun _ _ _ _ => trivial)⟩⟩ rfl hn hsize hst (lv_room hW) hdg hf) hS (fun q _ h => hFc q h) hFc (fun u t H1 locs1 ht hvm hw hB hz1 hk1 hS1 => ?_)
  subst ht
  obtain ⟨hP2, hD2⟩ := va_join hP hD isC isR hC hR hnR hdis hk1 hFc hB.1 hB.2
  exact kk u _ locs1 hw hP2 hD2 hS1
theorem lz_qf (F : CallFix p m c cc nL s args Ts own) (hM : Met l y ws rm (PQ D cI cS wc H.size (.ref b :: As)) (QF D wc w1 H.size pi) mc ms (va_A wc H.size)) (hK : KK D cI cS s) (hP : va_P D cls W0 H) (hD : va_D A W0) (hS : va_S A H0 H locs) (hA : ∀ q, H0.size ≤ q → A q)
    (isC isR : List Nat) (hnC : va_nd isC = true) (hC : isC.map (fun i => W0[i]?) = wc.map some) (hR : isR.map (fun i => W0[i]?) = wr.map some) (hnR : va_nd isR = true) (hdis : ∀ i ∈ isR, i ∉ isC) (hPc : va_P D cls wc H) (hDc : va_D A wc) (hc : cls[ci]? = some q) (he : wc[0]? = some (b, .inr (ci, fs)))
    (cw : CallW R s args own q.1 index y bytes maxL ret ws rm mc ms n) (hn : As.length = n) (hsize : ls.size = nL) (hst : st0 = As.reverse ++ .ref b :: rest) (hW : (rest.map fun v => v.category).sum ≤ 8) (hdg : decode cc pc = .ok (.invokevirtual index, 3)) (hf : cells + mc ≤ R.cells ∧ slots + ms ≤ R.slots)
    (kk : ∀ (r : Int32) (u : S) (H1 : Heap) (locs1 : List Loc), pi r u → va_P D cls (wr ++ w1 u) H1 → va_D A (wr ++ w1 u) → va_S A H0 H1 locs1 → W p l e R s m args below meth c H1 locs1 (cells + mc) (slots + ms) Q (F0 m (pc + 3) ls (.int r :: rest))) : W p l e R s m args below meth c H locs cells slots Q (F0 m pc ls st0) := by
  have hFc := va_free hD hS hA isC hC
  refine va_calli (va_runV (As := As) (rest := rest) F hM cw ⟨lz_bQ, va_recv hK.1 hPc hc he, fun U hU hW => ⟨rfl, by rw [hU], by rw [hU]; exact hPc, hK.warm hW, hDc.weaken (fun _ _ _ _ => trivial)⟩⟩ rfl hn hsize hst (lv_room hW) hdg hf) hS (fun q _ h => hFc q h) hFc (fun r u t H1 locs1 ht hvm hw hB hz1 hk1 hS1 => ?_)
  subst ht
  obtain ⟨hP2, hD2⟩ := va_join hP hD isC isR hC hR hnR hdis hk1 hFc hB.1 hB.2
  exact kk r u _ locs1 hw hP2 hD2 hS1
end LW2
