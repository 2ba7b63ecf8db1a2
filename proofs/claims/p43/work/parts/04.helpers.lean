/-- links to private members of nest mates: words that travel with the state -/
def NW (U : State) : Prop := va_Nw (.fieldLinkNest "MissedPoints" 140 "MissedPoints$Tape" "size" "I" "MissedPoints") U ∧ va_Nw (.fieldLinkNest "MissedPoints" 141 "MissedPoints$Draws" "z" "I" "MissedPoints") U ∧ va_Nw (.fieldLinkNest "MissedPoints" 187 "MissedPoints$Witness" "barrierCount" "I" "MissedPoints") U ∧ va_Nw (.fieldLinkNest "MissedPoints" 190 "MissedPoints$Witness" "greatestBarrier" "I" "MissedPoints") U ∧ va_Nw (.fieldLinkNest "MissedPoints" 193 "MissedPoints$Witness" "inEachBarrier" "I" "MissedPoints") U ∧ va_Nw (.fieldLinkNest "MissedPoints" 202 "MissedPoints$Witness" "earCount" "I" "MissedPoints") U ∧ va_Nw (.fieldLinkNest "MissedPoints" 240 "MissedPoints$Sheet" "sort" "I" "MissedPoints") U ∧ va_Nw (.fieldLinkNest "MissedPoints" 271 "MissedPoints$Reader" "links" "[I" "MissedPoints") U ∧ va_Nw (.fieldLinkNest "MissedPoints" 306 "MissedPoints$Sheet" "size" "I" "MissedPoints") U ∧ va_Nw (.fieldLinkNest "MissedPoints" 97 "MissedPoints$Net" "size" "I" "MissedPoints") U ∧ va_Nw (.fieldLinkNest "MissedPoints$Pairs" 31 "MissedPoints$Net" "changes" "I" "MissedPoints") U ∧ va_Nw (.fieldLinkNest "MissedPoints$Pairs" 61 "MissedPoints$Net" "links" "[I" "MissedPoints") U ∧ va_Nw (.fieldLinkNest "MissedPoints$Pairs" 81 "MissedPoints$Net" "size" "I" "MissedPoints") U ∧ va_Nw (.fieldLinkNest "MissedPoints$Parting" 42 "MissedPoints$Net" "links" "[I" "MissedPoints") U ∧ va_Nw (.fieldLinkNest "MissedPoints$Told" 35 "MissedPoints$Sheet" "size" "I" "MissedPoints") U ∧ va_Nw (.fieldLinkNest "MissedPoints$Told" 41 "MissedPoints$Net" "size" "I" "MissedPoints") U ∧ va_Nw (.fieldLinkNest "MissedPoints$Witness" 50 "MissedPoints$Net" "changes" "I" "MissedPoints") U ∧ va_Nw (.fieldLinkNest "MissedPoints$Witness" 65 "MissedPoints$Net" "size" "I" "MissedPoints") U ∧ va_Nw (.methodLinkNest "MissedPoints" 11 ⟨"MissedPoints$Net", "<init>", "()V"⟩ "MissedPoints") U ∧ va_Nw (.methodLinkNest "MissedPoints" 52 ⟨"MissedPoints$Draws", "<init>", "()V"⟩ "MissedPoints") U ∧ va_Nw (.methodLinkNest "MissedPoints" 59 ⟨"MissedPoints$Tape", "<init>", "()V"⟩ "MissedPoints") U ∧ va_Nw (.methodLinkNest "MissedPoints" 91 ⟨"MissedPoints$Shelves", "<init>", "()V"⟩ "MissedPoints") U ∧ va_Nw (.methodLinkNest "MissedPoints" 96 ⟨"MissedPoints$Sheet", "<init>", "()V"⟩ "MissedPoints") U ∧ va_Nw (.methodLinkNest "MissedPoints$Shelves" 18 ⟨"MissedPoints", "isShelf", "(I)Z"⟩ "MissedPoints") U ∧ va_Nw (.methodLinkNest "MissedPoints$Shelves" 22 ⟨"MissedPoints", "isKind", "(I)Z"⟩ "MissedPoints") U
theorem NW.warm {s U : State} (hW : s.WarmedH U.vm) (h : NW s) : NW U := by
  obtain ⟨h0, h1, h2, h3, h4, h5, h6, h7, h8, h9, h10, h11, h12, h13, h14, h15, h16, h17, h18, h19, h20, h21, h22, h23, h24⟩ := h
  exact ⟨h0.warmF hW, h1.warmF hW, h2.warmF hW, h3.warmF hW, h4.warmF hW, h5.warmF hW, h6.warmF hW, h7.warmF hW, h8.warmF hW, h9.warmF hW, h10.warmF hW, h11.warmF hW, h12.warmF hW, h13.warmF hW, h14.warmF hW, h15.warmF hW, h16.warmF hW, h17.warmF hW, h18.warmM hW, h19.warmM hW, h20.warmM hW, h21.warmM hW, h22.warmM hW, h23.warmM hW, h24.warmM hW⟩
theorem NW.same {s U : State} (h : s.vm = U.vm) (hN : NW s) : NW U := by
  obtain ⟨h0, h1, h2, h3, h4, h5, h6, h7, h8, h9, h10, h11, h12, h13, h14, h15, h16, h17, h18, h19, h20, h21, h22, h23, h24⟩ := hN
  exact ⟨h0.same rfl h, h1.same rfl h, h2.same rfl h, h3.same rfl h, h4.same rfl h, h5.same rfl h, h6.same rfl h, h7.same rfl h, h8.same rfl h, h9.same rfl h, h10.same rfl h, h11.same rfl h, h12.same rfl h, h13.same rfl h, h14.same rfl h, h15.same rfl h, h16.same rfl h, h17.same rfl h, h18.same rfl h, h19.same rfl h, h20.same rfl h, h21.same rfl h, h22.same rfl h, h23.same rfl h, h24.same rfl h⟩
abbrev cls : List vw_C := [(RX0, TX0, 1), (RX1, TX1, 2), (RX2, TX2, 3), (RX3, TX3, 4), (RX4, TX4, 2), (RX5, TX5, 8), (RX6, TX6, 3), (RX7, TX7, 2), (RX8, TX8, 2), (RX9, TX9, 6), (RX10, TX10, 8), (RX11, TX11, 16), (RX12, TX12, 24)]
/-- what is known of the tables: the classes' numbers and slots, the class of int arrays cI, that of rows of sheets cS, nest links -/
def KK (D : va_G) (cI cS : ClassId) (U : State) : Prop := va_K D cls [(cI, .int), (cS, .object RX6)] U ∧ NW U
theorem KK.warm {D : va_G} {cI cS : ClassId} {s U : State} (hW : s.WarmedH U.vm) (h : KK D cI cS s) : KK D cI cS U := ⟨va_K.moved hW.alike h.1, h.2.warm hW⟩
theorem KK.call {D : va_G} {cI cS : ClassId} {U : State} {g : JFrame} {mk : MethodId} {a : Array Value} (h : KK D cI cS U) : KK D cI cS (U.calling g mk a) := ⟨va_K.moved (u := U) (U := U.calling g mk a) (Vm.Alike.refl U.vm) h.1, h.2.same rfl⟩
abbrev PS (D : va_G) (cI cS : ClassId) (ws : va_W) (av : List Value) : Array Value → State → Prop := va_Pc av (fun U => va_P D cls ws U.heap ∧ KK D cI cS U)
abbrev PQ (D : va_G) (cI cS : ClassId) (ws : va_W) (sz : Nat) (av : List Value) : Array Value → State → Prop := va_Pc av (fun U => U.heap.size = sz ∧ va_P D cls ws U.heap ∧ KK D cI cS U ∧ va_D (fun _ => True) ws)
abbrev QI (D : va_G) (ws ws' : va_W) (sz : Nat) (post : Int32 → Prop) : Array Value → State → Outcome → State → Prop := va_Qi (fun (r : Int32) (_ : Unit) => post r) (fun _ t => va_P D cls ws' t.heap ∧ va_D (va_A ws sz) ws') (va_A ws sz)
abbrev QV (D : va_G) (ws ws' : va_W) (sz : Nat) : Array Value → State → Outcome → State → Prop := va_Qv (fun _ : Unit => True) (fun _ t => va_P D cls ws' t.heap ∧ va_D (va_A ws sz) ws') (va_A ws sz)
theorem lz_bS {D : va_G} {cI cS : ClassId} {ws : va_W} {av : List Value} : FrameBlind (PS D cI cS ws av) := fun _ _ _ _ q => ⟨q.1, q.2.1, q.2.2.call⟩
theorem lz_bQ {D : va_G} {cI cS : ClassId} {ws : va_W} {sz : Nat} {av : List Value} : FrameBlind (PQ D cI cS ws sz av) := fun _ _ _ _ q => ⟨q.1, q.2.1, q.2.2.1, q.2.2.2.1.call, q.2.2.2.2⟩
theorem lz_vp {x : Int32} {n : Nat} (h0 : ¬ x.toInt < 0) (h1 : x.toInt < (n : Int)) : vp_in x n := vp_in_iff.mpr ⟨by omega, h1⟩
theorem lz_lt (a b : Int32) : a < b ↔ a.toInt < b.toInt := Int32.lt_iff_toInt_lt
theorem lz_le (a b : Int32) : a ≤ b ↔ a.toInt ≤ b.toInt := Int32.le_iff_toInt_le
theorem lz_eq (a b : Int32) : a = b ↔ a.toInt = b.toInt := Int32.toInt_inj.symm
theorem lz_uc (v : Int32) (i : Nat) : upd (fun _ => v) i v = (fun _ => v) := by
  funext j
  simp [upd]
theorem lz_same {D : va_G} {cI cS cA : ClassId} {U : State} (h : va_K D cls [(cI, .int), (cS, .object RX6)] U) (h2 : va_K D cls ([(cI, .int), (cS, .object RX6)] ++ [(cA, .int)]) U) : cA = cI := by
  have a : U.vm.findClass _ = some cI := (h.2 0 _ rfl).2
  have b : U.vm.findClass _ = some cA := (h2.2 2 _ rfl).2
  exact Option.some.inj (b.symm.trans a)
theorem lz_set {α : Type} {ws : List α} {i : Nat} {x : α} (h : ws[i]? = some x) : ws.set i x = ws := by
  apply List.ext_getElem?
  intro j
  rw [List.getElem?_set]
  split
  · rename_i e
    subst e
    split
    · exact h.symm
    · rename_i hl
      rw [List.getElem?_eq_none (by omega)] at h
      cases h
  · rfl
section LZ
variable {p : Program} {l : Launch} {e : Env} {R : Room} {s : State} {m : MethodId} {args : Array Value} {below : List Frame} {meth : Method} {c : Code} {H : Heap} {locs : List Loc} {cells slots : Nat} {Q : State → Prop}
variable {pc : Nat} {ls : Array Slot} {rest st0 : List Value} {cc bytes : ByteArray} {nL maxL index n mc ms : Nat} {own : String} {y : MethodName} {ret : Option FieldType} {rm : Room} {Ts ws : List Cond} {D : va_G} {cI cS : ClassId} {wc : va_W} {b : Addr} {As : List Value} {ci : Nat} {q : vw_C} {fs : List Value} {post : Int32 → Prop}
theorem lz_top {x y : Int32} (h : x = y) (k : W p l e R s m args below meth c H locs cells slots Q (F0 m pc ls (.int y :: rest))) : W p l e R s m args below meth c H locs cells slots Q (F0 m pc ls (.int x :: rest)) := h ▸ k
theorem lz_va {x y : Value} (h : x = y) (k : W p l e R s m args below meth c H locs cells slots Q (F0 m pc ls (y :: rest))) : W p l e R s m args below meth c H locs cells slots Q (F0 m pc ls (x :: rest)) := h ▸ k
theorem lz_CR {g : JFrame} {Qa : State → Outcome → State → Prop} {free : Addr → Prop} (h : va_Run p l e R s m args below meth c H locs cells slots mc ms g rest Qa free) : CallRun p l e R s m args below meth c H locs cells slots mc ms g rest Qa free := fun T hT X => by
  obtain ⟨v, st₀, t, T', L, h0, X', hL, e1, e2, hq, st⟩ := h T hT X
  exact ⟨v, st₀, t, T', L, h0, X', hL, e1, hq, st⟩
/-- a write of what is there anyway -/
theorem lz_astc {ty : List (ClassId × FieldType)} {W1 : va_W} {A1 : Nat → Prop} {H2 : Heap} {a : Nat} (hexec : p.tables.exec = Jvm.exec) (hb : c.code = cc) (hK : va_K D cls ty s) (hP : va_P D cls W1 H) (hD : va_D A1 W1) (hS : va_S A1 H2 H locs) (q0 t0 : Nat) {cA : ClassId} {k : Nat} {x : Int32} (ha : W1[q0]? = some (a, .inl (cA, k, .inl (fun _ => x)))) (ht : ty[t0]? = some (cA, .int)) {i : Int32} (hin : vp_in i k) (hdg : decode cc pc = .ok (.iastore, 1))
    (kk : ∀ (H1 : Heap) (locs1 : List Loc), va_P D cls W1 H1 → va_D A1 W1 → va_S A1 H2 H1 locs1 → W p l e R s m args below meth c H1 locs1 cells slots Q (F0 m (pc + 1) ls rest)) : W p l e R s m args below meth c H locs cells slots Q (F0 m pc ls (.int x :: .int i :: .ref a :: rest)) := by
  refine va_iast hexec hb hK hP hD hS q0 t0 ha ht hin hdg (fun H1 locs1 h1 h2 h3 => ?_)
  rw [lz_uc, lz_set ha] at h1 h2
  exact kk H1 locs1 h1 h2 h3
/-- a reader, called on an object -/
theorem lz_sv (F : CallFix p m c cc nL s args Ts own) (hM : Met l y ws rm (PS D cI cS wc (.ref b :: As)) (vp_Si post) 0 0 (fun _ => False)) (hK : KK D cI cS s) (hP : va_P D cls wc H) (hc : cls[ci]? = some q) (he : wc[0]? = some (b, .inr (ci, fs)))
    (cw : CallW R s args own q.1 index y bytes maxL ret ws rm 0 0 n) (hn : As.length = n) (hsize : ls.size = nL) (hst : st0 = As.reverse ++ .ref b :: rest) (hW : (rest.map fun v => v.category).sum ≤ 8) (hdg : decode cc pc = .ok (.invokevirtual index, 3)) (hf : cells ≤ R.cells ∧ slots ≤ R.slots)
    (kk : ∀ r : Int32, post r → W p l e R s m args below meth c H locs cells slots Q (F0 m (pc + 3) ls (.int r :: rest))) : W p l e R s m args below meth c H locs cells slots Q (F0 m pc ls st0) :=
  vp_callSi (W.runV (As := As) (rest := rest) F hM cw ⟨lz_bS, va_recv hK.1 hP hc he, fun U hU hW => ⟨rfl, by rw [hU]; exact hP, hK.warm hW⟩⟩ rfl hn hsize hst (lv_room hW) hdg hf) kk
/-- a reader, static -/
theorem lz_ss (F : CallFix p m c cc nL s args Ts own) (hM : Met l y ws rm (PS D cI cS wc As) (vp_Si post) 0 0 (fun _ => False)) (hK : KK D cI cS s) (hP : va_P D cls wc H)
    (cw : CallB R s args own index y bytes maxL ret ws rm 0 0 n ∧ (Cond.static y).before args s = true) (hn : As.length = n) (hsize : ls.size = nL) (hst : st0 = As.reverse ++ rest) (hW : (rest.map fun v => v.category).sum ≤ 8) (hdg : decode cc pc = .ok (.invokestatic index, 3)) (hf : cells ≤ R.cells ∧ slots ≤ R.slots)
    (kk : ∀ r : Int32, post r → W p l e R s m args below meth c H locs cells slots Q (F0 m (pc + 3) ls (.int r :: rest))) : W p l e R s m args below meth c H locs cells slots Q (F0 m pc ls st0) :=
  vp_callSi (W.runS (As := As) (rest := rest) F hM cw ⟨lz_bS, fun U hU hW => ⟨rfl, by rw [hU]; exact hP, hK.warm hW⟩⟩ rfl hn hsize hst (lv_room hW) hdg hf) kk
/-- a reader, static, private, of the nest's host -/
theorem lz_sn {host : String} (F : CallFix p m c cc nL s args Ts own) (hM : Met l y ws rm (PS D cI cS wc As) (vp_Si post) 0 0 (fun _ => False)) (hK : KK D cI cS s) (hP : va_P D cls wc H)
    (cw : va_CN R s args own index y host bytes maxL ret ws rm 0 0 n ∧ (Cond.static y).before args s = true ∧ True) (hn : As.length = n) (hsize : ls.size = nL) (hst : st0 = As.reverse ++ rest) (hW : (rest.map fun v => v.category).sum ≤ 8) (hdg : decode cc pc = .ok (.invokestatic index, 3)) (hf : cells ≤ R.cells ∧ slots ≤ R.slots)
    (kk : ∀ r : Int32, post r → W p l e R s m args below meth c H locs cells slots Q (F0 m (pc + 3) ls (.int r :: rest))) : W p l e R s m args below meth c H locs cells slots Q (F0 m pc ls st0) :=
  vp_callSi (lz_CR (va_runSN (As := As) (rest := rest) F hM cw ⟨lz_bS, fun U hU hW => ⟨rfl, by rw [hU]; exact hP, hK.warm hW⟩⟩ rfl hn hsize hst (lv_room hW) hdg hf)) kk
variable {A : Nat → Prop} {H0 : Heap} {W0 wr w1 : va_W} {isC isR : List Nat}
/-- a method that writes, called on an object: an int comes back; the rest of the world stays -/
theorem lz_qi (F : CallFix p m c cc nL s args Ts own) (hM : Met l y ws rm (PQ D cI cS wc H.size (.ref b :: As)) (QI D wc w1 H.size post) mc ms (va_A wc H.size)) (hK : KK D cI cS s) (hP : va_P D cls W0 H) (hD : va_D A W0) (hS : va_S A H0 H locs) (hA : ∀ q, H0.size ≤ q → A q)
    (isC isR : List Nat) (hnC : va_nd isC = true) (hC : isC.map (fun i => W0[i]?) = wc.map some) (hR : isR.map (fun i => W0[i]?) = wr.map some) (hnR : va_nd isR = true) (hdis : ∀ i ∈ isR, i ∉ isC) (hPc : va_P D cls wc H) (hDc : va_D A wc) (hc : cls[ci]? = some q) (he : wc[0]? = some (b, .inr (ci, fs)))
    (cw : CallW R s args own q.1 index y bytes maxL ret ws rm mc ms n) (hn : As.length = n) (hsize : ls.size = nL) (hst : st0 = As.reverse ++ .ref b :: rest) (hW : (rest.map fun v => v.category).sum ≤ 8) (hdg : decode cc pc = .ok (.invokevirtual index, 3)) (hf : cells + mc ≤ R.cells ∧ slots + ms ≤ R.slots)
    (kk : ∀ (r : Int32) (H1 : Heap) (locs1 : List Loc), post r → va_P D cls (wr ++ w1) H1 → va_D A (wr ++ w1) → va_S A H0 H1 locs1 → W p l e R s m args below meth c H1 locs1 (cells + mc) (slots + ms) Q (F0 m (pc + 3) ls (.int r :: rest))) : W p l e R s m args below meth c H locs cells slots Q (F0 m pc ls st0) := by
  have hFc := va_free hD hS hA isC hC
  refine va_calli (va_runV (As := As) (rest := rest) F hM cw ⟨lz_bQ, va_recv hK.1 hPc hc he, fun U hU hW => ⟨rfl, by rw [hU], by rw [hU]; exact hPc, hK.warm hW, hDc.weaken (fun _ _ _ _ => trivial)⟩⟩ rfl hn hsize hst (lv_room hW) hdg hf) hS (fun q _ h => hFc q h) hFc (fun r u t H1 locs1 ht hvm hw hB hz1 hk1 hS1 => ?_)
  subst ht
  obtain ⟨hP2, hD2⟩ := va_join hP hD isC isR hC hR hnR hdis hk1 hFc hB.1 hB.2
  exact kk r _ locs1 hw hP2 hD2 hS1
/-- the same, nothing comes back -/
theorem lz_qv (F : CallFix p m c cc nL s args Ts own) (hM : Met l y ws rm (PQ D cI cS wc H.size (.ref b :: As)) (QV D wc w1 H.size) mc ms (va_A wc H.size)) (hK : KK D cI cS s) (hP : va_P D cls W0 H) (hD : va_D A W0) (hS : va_S A H0 H locs) (hA : ∀ q, H0.size ≤ q → A q)
    (isC isR : List Nat) (hnC : va_nd isC = true) (hC : isC.map (fun i => W0[i]?) = wc.map some) (hR : isR.map (fun i => W0[i]?) = wr.map some) (hnR : va_nd isR = true) (hdis : ∀ i ∈ isR, i ∉ isC) (hPc : va_P D cls wc H) (hDc : va_D A wc) (hc : cls[ci]? = some q) (he : wc[0]? = some (b, .inr (ci, fs)))
    (cw : CallW R s args own q.1 index y bytes maxL ret ws rm mc ms n) (hn : As.length = n) (hsize : ls.size = nL) (hst : st0 = As.reverse ++ .ref b :: rest) (hW : (rest.map fun v => v.category).sum ≤ 8) (hdg : decode cc pc = .ok (.invokevirtual index, 3)) (hf : cells + mc ≤ R.cells ∧ slots + ms ≤ R.slots)
    (kk : ∀ (H1 : Heap) (locs1 : List Loc), va_P D cls (wr ++ w1) H1 → va_D A (wr ++ w1) → va_S A H0 H1 locs1 → W p l e R s m args below meth c H1 locs1 (cells + mc) (slots + ms) Q (F0 m (pc + 3) ls rest)) : W p l e R s m args below meth c H locs cells slots Q (F0 m pc ls st0) := by
  have hFc := va_free hD hS hA isC hC
  refine va_callv (va_runV (As := As) (rest := rest) F hM cw ⟨lz_bQ, va_recv hK.1 hPc hc he, fun U hU hW => ⟨rfl, by rw [hU], by rw [hU]; exact hPc, hK.warm hW, hDc.weaken (fun _ _ _ _ => trivial)⟩⟩ rfl hn hsize hst (lv_room hW) hdg hf) hS (fun q _ h => hFc q h) hFc (fun u t H1 locs1 ht hvm hw hB hz1 hk1 hS1 => ?_)
  subst ht
  obtain ⟨hP2, hD2⟩ := va_join hP hD isC isR hC hR hnR hdis hk1 hFc hB.1 hB.2
  exact kk _ locs1 hP2 hD2 hS1
/-- a constructor -/
theorem lz_qc (F : CallFix p m c cc nL s args Ts own) (hM : Met l y ws rm (PQ D cI cS wc H.size (.ref b :: As)) (QV D wc w1 H.size) mc ms (va_A wc H.size)) (hK : KK D cI cS s) (hP : va_P D cls W0 H) (hD : va_D A W0) (hS : va_S A H0 H locs) (hA : ∀ q, H0.size ≤ q → A q)
    (isC isR : List Nat) (hnC : va_nd isC = true) (hC : isC.map (fun i => W0[i]?) = wc.map some) (hR : isR.map (fun i => W0[i]?) = wr.map some) (hnR : va_nd isR = true) (hdis : ∀ i ∈ isR, i ∉ isC) (hPc : va_P D cls wc H) (hDc : va_D A wc)
    (cw : CallB R s args own index y bytes maxL none ws rm mc ms n ∧ y.name = "<init>" ∧ (Cond.instanceMethod y).before args s = true) (hn : As.length = n) (hsize : ls.size = nL) (hst : st0 = As.reverse ++ .ref b :: rest) (hW : (rest.map fun v => v.category).sum ≤ 8) (hdg : decode cc pc = .ok (.invokespecial index, 3)) (hf : cells + mc ≤ R.cells ∧ slots + ms ≤ R.slots)
    (kk : ∀ (H1 : Heap) (locs1 : List Loc), va_P D cls (wr ++ w1) H1 → va_D A (wr ++ w1) → va_S A H0 H1 locs1 → W p l e R s m args below meth c H1 locs1 (cells + mc) (slots + ms) Q (F0 m (pc + 3) ls rest)) : W p l e R s m args below meth c H locs cells slots Q (F0 m pc ls st0) := by
  have hFc := va_free hD hS hA isC hC
  refine va_callv (va_runI (As := As) (rest := rest) F hM cw ⟨lz_bQ, fun U hU hW => ⟨rfl, by rw [hU], by rw [hU]; exact hPc, hK.warm hW, hDc.weaken (fun _ _ _ _ => trivial)⟩⟩ rfl hn hsize hst (lv_room hW) hdg hf) hS (fun q _ h => hFc q h) hFc (fun u t H1 locs1 ht hvm hw hB hz1 hk1 hS1 => ?_)
  subst ht
  obtain ⟨hP2, hD2⟩ := va_join hP hD isC isR hC hR hnR hdis hk1 hFc hB.1 hB.2
  exact kk _ locs1 hP2 hD2 hS1
/-- a private constructor of a nest mate -/
theorem lz_qcn {host : String} (F : CallFix p m c cc nL s args Ts own) (hM : Met l y ws rm (PQ D cI cS wc H.size (.ref b :: As)) (QV D wc w1 H.size) mc ms (va_A wc H.size)) (hK : KK D cI cS s) (hP : va_P D cls W0 H) (hD : va_D A W0) (hS : va_S A H0 H locs) (hA : ∀ q, H0.size ≤ q → A q)
    (isC isR : List Nat) (hnC : va_nd isC = true) (hC : isC.map (fun i => W0[i]?) = wc.map some) (hR : isR.map (fun i => W0[i]?) = wr.map some) (hnR : va_nd isR = true) (hdis : ∀ i ∈ isR, i ∉ isC) (hPc : va_P D cls wc H) (hDc : va_D A wc)
    (cw : va_CN R s args own index y host bytes maxL none ws rm mc ms n ∧ y.name = "<init>" ∧ (Cond.instanceMethod y).before args s = true) (hn : As.length = n) (hsize : ls.size = nL) (hst : st0 = As.reverse ++ .ref b :: rest) (hW : (rest.map fun v => v.category).sum ≤ 8) (hdg : decode cc pc = .ok (.invokespecial index, 3)) (hf : cells + mc ≤ R.cells ∧ slots + ms ≤ R.slots)
    (kk : ∀ (H1 : Heap) (locs1 : List Loc), va_P D cls (wr ++ w1) H1 → va_D A (wr ++ w1) → va_S A H0 H1 locs1 → W p l e R s m args below meth c H1 locs1 (cells + mc) (slots + ms) Q (F0 m (pc + 3) ls rest)) : W p l e R s m args below meth c H locs cells slots Q (F0 m pc ls st0) := by
  have hFc := va_free hD hS hA isC hC
  refine va_callv (va_runIN (As := As) (rest := rest) F hM cw ⟨lz_bQ, fun U hU hW => ⟨rfl, by rw [hU], by rw [hU]; exact hPc, hK.warm hW, hDc.weaken (fun _ _ _ _ => trivial)⟩⟩ rfl hn hsize hst (lv_room hW) hdg hf) hS (fun q _ h => hFc q h) hFc (fun u t H1 locs1 ht hvm hw hB hz1 hk1 hS1 => ?_)
  subst ht
  obtain ⟨hP2, hD2⟩ := va_join hP hD isC isR hC hR hnR hdis hk1 hFc hB.1 hB.2
  exact kk _ locs1 hP2 hD2 hS1
end LZ
