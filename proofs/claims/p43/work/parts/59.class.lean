/-- the table of kinds, which nobody writes -/
def AB (U : State) (H : Heap) : Prop := ∃ (t : Nat) (f : Nat → Int32), va_Z "MissedPoints$Shelves" "ABOVE" "[I" (.ref t) (fun _ => False) U H ∧ va_T .int t 6 (fun k => .int (f k)) (fun _ => False) U H
theorem AB.moved {u U : State} {H : Heap} (hvm : u.vm.Alike U.vm) (h : AB u H) : AB U H := by
  obtain ⟨t, f, a, b⟩ := h
  exact ⟨t, f, a.moved hvm, b.moved hvm⟩
theorem AB.warm {s U : State} {H : Heap} (hW : s.WarmedH U.vm) (h : AB s H) : AB U H := h.moved hW.alike
abbrev PT (D : va_G) (cI cS : ClassId) (ws : va_W) (av : List Value) : Array Value → State → Prop := va_Pc av (fun U => va_P D cls ws U.heap ∧ KK D cI cS U ∧ AB U U.heap)
theorem AB.call {U : State} {H : Heap} {g : JFrame} {mk : MethodId} {a : Array Value} (h : AB U H) : AB (U.calling g mk a) H := AB.moved (u := U) (U := U.calling g mk a) (Vm.Alike.refl U.vm) h
theorem lz_bT {D : va_G} {cI cS : ClassId} {ws : va_W} {av : List Value} : FrameBlind (PT D cI cS ws av) := fun _ _ _ _ q => ⟨q.1, q.2.1, q.2.2.1.call, q.2.2.2.call⟩
section WKT
variable {p : Program} {l : Launch} {e : Env} {R : Room} {s : State} {m : MethodId} {args : Array Value} {below : List Frame} {meth : Method} {c : Code} {H : Heap} {locs : List Loc} {cells slots : Nat} {Q : State → Prop}
variable {pc : Nat} {ls : Array Slot} {rest st0 : List Value} {cc bytes : ByteArray} {nL maxL index n mc ms : Nat} {own : String} {y : MethodName} {ret : Option FieldType} {rm : Room} {Ts ws : List Cond} {D : va_G} {cI cS : ClassId} {b0 : Addr} {As : List Value} {ci : Nat} {q : vw_C} {fs : List Value}
theorem wk_svT {wc : va_W} {post : Int32 → Prop} (k0 : Nat) (F : CallFix p m c cc nL s args Ts own) (hM : Met l y ws rm (PT D cI cS wc (.ref b0 :: As)) (vp_Si post) 0 0 (fun _ => False)) (hK : KK D cI cS s) (hAB : AB s H) (hP : va_P D cls wc H) (hc : cls[ci]? = some q) (he : wc[k0]? = some (b0, .inr (ci, fs)))
    (cw : CallW R s args own q.1 index y bytes maxL ret ws rm 0 0 n) (hn : As.length = n) (hsize : ls.size = nL) (hst : st0 = As.reverse ++ .ref b0 :: rest) (hW : (rest.map fun v => v.category).sum ≤ 8) (hdg : decode cc pc = .ok (.invokevirtual index, 3)) (hf : cells ≤ R.cells ∧ slots ≤ R.slots)
    (kk : ∀ r : Int32, post r → W p l e R s m args below meth c H locs cells slots Q (F0 m (pc + 3) ls (.int r :: rest))) : W p l e R s m args below meth c H locs cells slots Q (F0 m pc ls st0) :=
  vp_callSi (W.runV (As := As) (rest := rest) F hM cw ⟨lz_bT, va_recv hK.1 hP hc he, fun U hU hW => ⟨rfl, by rw [hU]; exact hP, hK.warm hW, by rw [hU]; exact hAB.warm hW⟩⟩ rfl hn hsize hst (lv_room hW) hdg hf) kk
end WKT
/-! what is held against the reference, one by one -/
def mkL (s t i kp iz z tp o0 o1 o2 o3 n0 n1 n2 n3 : Int32) : SU := fun k j => (cond (Nat.beq k 0 && Nat.beq j 7) kp (cond (Nat.beq k 0 && Nat.beq j 8) iz (cond (Nat.beq k 1 && Nat.beq j 1) s (cond (Nat.beq k 3 && Nat.beq j 1) t (cond (Nat.beq k 5 && Nat.beq j 1) i (cond (Nat.beq k 20 && Nat.beq j 0) z (cond (Nat.beq k 21 && Nat.beq j 1) tp (cond (Nat.beq k 26 && Nat.beq j 1) o0 (cond (Nat.beq k 26 && Nat.beq j 2) n0 (cond (Nat.beq k 28 && Nat.beq j 1) o1 (cond (Nat.beq k 28 && Nat.beq j 2) n1 (cond (Nat.beq k 30 && Nat.beq j 1) o2 (cond (Nat.beq k 30 && Nat.beq j 2) n2 (cond (Nat.beq k 32 && Nat.beq j 1) o3 (cond (Nat.beq k 32 && Nat.beq j 2) n3 n3)))))))))))))))
theorem sx_27 {cI cS : ClassId} {a : Nat → Nat} {na nc N : Nat} {L u : SU} (g : Nat → Int32) : (wX cI cS a na nc N L u).set 27 ((a 27), .inl (cI, 40, .inl g)) = wX cI cS a na nc N L (sU u 27 g) := rfl
theorem sx_29 {cI cS : ClassId} {a : Nat → Nat} {na nc N : Nat} {L u : SU} (g : Nat → Int32) : (wX cI cS a na nc N L u).set 29 ((a 29), .inl (cI, 40, .inl g)) = wX cI cS a na nc N L (sU u 29 g) := rfl
theorem sx_31 {cI cS : ClassId} {a : Nat → Nat} {na nc N : Nat} {L u : SU} (g : Nat → Int32) : (wX cI cS a na nc N L u).set 31 ((a 31), .inl (cI, 40, .inl g)) = wX cI cS a na nc N L (sU u 31 g) := rfl
theorem sx_33 {cI cS : ClassId} {a : Nat → Nat} {na nc N : Nat} {L u : SU} (g : Nat → Int32) : (wX cI cS a na nc N L u).set 33 ((a 33), .inl (cI, 40, .inl g)) = wX cI cS a na nc N L (sU u 33 g) := rfl
theorem wk_qA {p : Program} {l : Launch} {e : Env} {R : Room} {s : State} {m : MethodId} {args : Array Value} {below : List Frame} {meth : Method} {c : Code} {H : Heap} {locs : List Loc} {cells slots : Nat} {Q : State → Prop} {pc : Nat} {ls : Array Slot} {rest st0 : List Value} {cc bytes : ByteArray} {nL maxL index n mc ms : Nat} {own : String} {y : MethodName} {ret : Option FieldType} {rm : Room} {Ts ws : List Cond} {D : va_G} {cI cS : ClassId} {b0 : Addr} {As : List Value} {ci : Nat} {q : vw_C} {fs : List Value} {A : Nat → Prop} {H0 : Heap} {S : Type} {pi : Int32 → S → Prop} (W0 : va_W) (w : S → va_W) (F : CallFix p m c cc nL s args Ts own) (hM : Met l y ws rm (PQ D cI cS W0 H.size (.ref b0 :: As)) (QF D W0 w H.size pi) mc ms (va_A W0 H.size)) (hK : KK D cI cS s) (hP : va_P D cls W0 H) (hD : va_D A W0) (hS : va_S A H0 H locs) (hA : ∀ q, H0.size ≤ q → A q)
    (k0 : Nat) (hc : cls[ci]? = some q) (he : W0[k0]? = some (b0, .inr (ci, fs))) (cw : CallW R s args own q.1 index y bytes maxL ret ws rm mc ms n) (hn : As.length = n) (hsize : ls.size = nL) (hst : st0 = As.reverse ++ .ref b0 :: rest) (hW : (rest.map fun v => v.category).sum ≤ 8) (hdg : decode cc pc = .ok (.invokevirtual index, 3)) (hf : cells + mc ≤ R.cells ∧ slots + ms ≤ R.slots)
    (kk : ∀ (r : Int32) (u : S) (H1 : Heap) (locs1 : List Loc), pi r u → va_P D cls (w u) H1 → va_D A (w u) → va_S A H0 H1 locs1 → W p l e R s m args below meth c H1 locs1 (cells + mc) (slots + ms) Q (F0 m (pc + 3) ls (.int r :: rest))) : W p l e R s m args below meth c H locs cells slots Q (F0 m pc ls st0) := by
  have hFc := wk_free hD hS hA
  refine va_calli (va_runV (As := As) (rest := rest) F hM cw ⟨lz_bQ, va_recv hK.1 hP hc he, fun U hU hW => ⟨rfl, by rw [hU], by rw [hU]; exact hP, hK.warm hW, hD.weaken (fun _ _ _ _ => trivial)⟩⟩ rfl hn hsize hst (lv_room hW) hdg hf) hS (fun q _ h => hFc q h) hFc (fun r u t H1 locs1 ht hvm hw hB hz1 hk1 hS1 => ?_)
  subst ht
  exact kk r u _ locs1 hw hB.1 (hB.2.weaken (fun _ _ _ h => hFc _ h)) hS1
theorem wk_minE {x y : Int32} : (if y < x then y else x).toInt ≤ x.toInt ∧ (if y < x then y else x).toInt ≤ y.toInt ∧ ((if y < x then y else x).toInt = x.toInt ∨ (if y < x then y else x).toInt = y.toInt) := by
  split
  · rename_i z
    have := (lz_lt _ _).mp z
    exact ⟨by omega, by omega, Or.inr rfl⟩
  · rename_i z
    have := mt (lz_lt _ _).mpr z
    exact ⟨by omega, by omega, Or.inl rfl⟩
theorem wk_maxE {x y : Int32} : x.toInt ≤ (if x < y then y else x).toInt ∧ y.toInt ≤ (if x < y then y else x).toInt ∧ ((if x < y then y else x).toInt = x.toInt ∨ (if x < y then y else x).toInt = y.toInt) := by
  split
  · rename_i z
    have := (lz_lt _ _).mp z
    exact ⟨by omega, by omega, Or.inr rfl⟩
  · rename_i z
    have := mt (lz_lt _ _).mpr z
    exact ⟨by omega, by omega, Or.inl rfl⟩
theorem wk_cpy {a b c d : Int} {i n : Int32} {k : Nat} (hi : Rg a b i) (hn : Rg c d n) (ha : 0 ≤ a) (hc : 0 ≤ c) (h : i.toInt + n.toInt ≤ (k : Int)) : i.toNatClampNeg + n.toNatClampNeg ≤ k := by
  have e1 : i.toNatClampNeg = i.toInt.toNat := rfl
  have e2 : n.toNatClampNeg = n.toInt.toNat := rfl
  have h1 := hi.1
  have h2 := hn.1
  omega
