/-! the law's state -/
abbrev LX (cx : Nat → Int32) : SU := mkL (cx 0) (cx 1) (cx 2) (cx 3) (cx 4) (cx 5) (cx 6) (cx 7) (cx 8) (cx 9) (cx 10) (cx 11) (cx 12) (cx 13) (cx 14)
abbrev LM (my : Nat → Int32) (R : SU) : SU := mkM (my 0) (my 1) (my 2) (my 3) (my 4) (my 5) (my 6) (R 0) (R 1) (R 2)
def RLc (cx my : Nat → Int32) (R : SU) : Prop := (cx 0).toInt = (my 0).toInt ∧ (cx 5).toInt = (my 1).toInt ∧ (cx 4).toInt = ((R 2) 1).toInt ∧ (cx 6).toInt = (my 2).toInt ∧ (cx 3).toInt = (my 3).toInt ∧ (cx 2).toInt = ((R 2) 0).toInt ∧ (cx 7).toInt = ((R 0) 0).toInt ∧ (cx 8).toInt = ((R 0) 1).toInt ∧ (cx 9).toInt = ((R 0) 2).toInt ∧ (cx 10).toInt = ((R 0) 3).toInt ∧ (cx 11).toInt = ((R 1) 0).toInt ∧ (cx 12).toInt = ((R 1) 1).toInt ∧ (cx 13).toInt = ((R 1) 2).toInt ∧ (cx 14).toInt = ((R 1) 3).toInt
def INV (cx my : Nat → Int32) (R v : SU) : Prop := TyX (LX cx) ∧ TyL (LM my R) ∧ TyV v ∧ RLc cx my R
def CSL (N cells slots : Nat) : Prop := (N = 0 ∧ cells = 2000 ∧ slots = 100000) ∨ (N = 24576 ∧ cells = 2002 ∧ slots = 124578)
theorem CSL.hN {N cells slots : Nat} (h : CSL N cells slots) : N = 0 ∨ N = 24576 := by
  rcases h with h | h
  · exact Or.inl h.1
  · exact Or.inr h.1
theorem CSL.hf {N cells slots : Nat} (h : CSL N cells slots) : cells + 0 ≤ room_1.cells ∧ slots + 0 ≤ room_1.slots := by
  rcases h with ⟨_, rfl, rfl⟩ | ⟨_, rfl, rfl⟩ <;> exact ⟨Nat.le_of_ble_eq_true rfl, Nat.le_of_ble_eq_true rfl⟩
section LQ
variable {p : Program} {l : Launch} {e : Env} {R : Room} {s : State} {m : MethodId} {args : Array Value} {below : List Frame} {meth : Method} {c : Code} {H : Heap} {locs : List Loc} {cells slots : Nat} {Q : State → Prop}
variable {pc : Nat} {ls : Array Slot} {rest st0 : List Value} {cc bytes : ByteArray} {nL maxL index n mc ms : Nat} {own : String} {y : MethodName} {ret : Option FieldType} {rm : Room} {Ts ws : List Cond} {D : va_G} {cI cS : ClassId} {As : List Value} {A : Nat → Prop} {H0 : Heap} {S : Type} {pi : Int32 → S → Prop} {post : Int32 → Prop}
variable {a b : Nat → Nat} {na nc N : Nat} {L M u v : SU} {fna fnc fN : S → Nat} {fL fu : S → SU}
theorem flip_P (h : va_P D cls (wM cI b M v ++ wX cI cS a na nc N L u) H) : va_P D cls (wX cI cS a na nc N L u ++ wM cI b M v) H := h.sub [16, 17, 18, 19, 20, 21, 22, 23, 24, 25, 26, 27, 28, 29, 30, 31, 32, 33, 34, 35, 36, 37, 38, 39, 40, 41, 42, 43, 44, 45, 46, 47, 48, 49, 50, 51, 52, 53, 54, 55, 56, 57, 58, 59, 60, 0, 1, 2, 3, 4, 5, 6, 7, 8, 9, 10, 11, 12, 13, 14, 15] rfl
theorem flip_D (h : va_D A (wM cI b M v ++ wX cI cS a na nc N L u)) : va_D A (wX cI cS a na nc N L u ++ wM cI b M v) := h.sub [16, 17, 18, 19, 20, 21, 22, 23, 24, 25, 26, 27, 28, 29, 30, 31, 32, 33, 34, 35, 36, 37, 38, 39, 40, 41, 42, 43, 44, 45, 46, 47, 48, 49, 50, 51, 52, 53, 54, 55, 56, 57, 58, 59, 60, 0, 1, 2, 3, 4, 5, 6, 7, 8, 9, 10, 11, 12, 13, 14, 15] (by decide) rfl
theorem lw_PX (h : va_P D cls (wX cI cS a na nc N L u ++ wM cI b M v) H) : va_P D cls (wX cI cS a na nc N L u) H := h.sub [0, 1, 2, 3, 4, 5, 6, 7, 8, 9, 10, 11, 12, 13, 14, 15, 16, 17, 18, 19, 20, 21, 22, 23, 24, 25, 26, 27, 28, 29, 30, 31, 32, 33, 34, 35, 36, 37, 38, 39, 40, 41, 42, 43, 44] rfl
theorem lw_PM (h : va_P D cls (wX cI cS a na nc N L u ++ wM cI b M v) H) : va_P D cls (wM cI b M v) H := h.sub [45, 46, 47, 48, 49, 50, 51, 52, 53, 54, 55, 56, 57, 58, 59, 60] rfl
theorem lw_DX (h : va_D A (wX cI cS a na nc N L u ++ wM cI b M v)) : va_D A (wX cI cS a na nc N L u) := h.sub [0, 1, 2, 3, 4, 5, 6, 7, 8, 9, 10, 11, 12, 13, 14, 15, 16, 17, 18, 19, 20, 21, 22, 23, 24, 25, 26, 27, 28, 29, 30, 31, 32, 33, 34, 35, 36, 37, 38, 39, 40, 41, 42, 43, 44] (by decide) rfl
theorem lw_DM (h : va_D A (wX cI cS a na nc N L u ++ wM cI b M v)) : va_D A (wM cI b M v) := h.sub [45, 46, 47, 48, 49, 50, 51, 52, 53, 54, 55, 56, 57, 58, 59, 60] (by decide) rfl
theorem lq_X (F : CallFix p m c cc nL s args Ts own) (hM : Met l y ws rm (PQ D cI cS (wX cI cS a na nc N L u) H.size (.ref (a 0) :: As)) (QF D (wX cI cS a na nc N L u) (fun q => wX cI cS a (fna q) (fnc q) (fN q) (fL q) (fu q)) H.size pi) mc ms (va_A (wX cI cS a na nc N L u) H.size)) (hK : KK D cI cS s) (hP : va_P D cls (wX cI cS a na nc N L u ++ wM cI b M v) H) (hD : va_D A (wX cI cS a na nc N L u ++ wM cI b M v)) (hS : va_S A H0 H locs) (hA : ∀ q, H0.size ≤ q → A q)
    (cw : CallW R s args own RX11 index y bytes maxL ret ws rm mc ms n) (hn : As.length = n) (hsize : ls.size = nL) (hst : st0 = As.reverse ++ .ref (a 0) :: rest) (hW : (rest.map fun v => v.category).sum ≤ 8) (hdg : decode cc pc = .ok (.invokevirtual index, 3)) (hf : cells + mc ≤ R.cells ∧ slots + ms ≤ R.slots)
    (kk : ∀ (r : Int32) (q : S) (H1 : Heap) (locs1 : List Loc), pi r q → va_P D cls (wX cI cS a (fna q) (fnc q) (fN q) (fL q) (fu q) ++ wM cI b M v) H1 → va_D A (wX cI cS a (fna q) (fnc q) (fN q) (fL q) (fu q) ++ wM cI b M v) → va_S A H0 H1 locs1 → W p l e R s m args below meth c H1 locs1 (cells + mc) (slots + ms) Q (F0 m (pc + 3) ls (.int r :: rest))) : W p l e R s m args below meth c H locs cells slots Q (F0 m pc ls st0) :=
  lz_qf (wr := wM cI b M v) F hM hK hP hD hS hA [0, 1, 2, 3, 4, 5, 6, 7, 8, 9, 10, 11, 12, 13, 14, 15, 16, 17, 18, 19, 20, 21, 22, 23, 24, 25, 26, 27, 28, 29, 30, 31, 32, 33, 34, 35, 36, 37, 38, 39, 40, 41, 42, 43, 44] [45, 46, 47, 48, 49, 50, 51, 52, 53, 54, 55, 56, 57, 58, 59, 60] (by decide) rfl rfl (by decide) (by decide) (lw_PX hP) (lw_DX hD) (ci := 11) rfl rfl cw hn hsize hst hW hdg hf (fun r q H1 locs1 h1 h2 h3 h4 => kk r q H1 locs1 h1 (flip_P h2) (flip_D h3) h4)
theorem lq_M (F : CallFix p m c cc nL s args Ts own) (hM : Met l y ws rm (PQ D cI cS (wM cI b M v) H.size (.ref (b 0) :: As)) (QF D (wM cI b M v) (fun q => wM cI b (fL q) (fu q)) H.size pi) mc ms (va_A (wM cI b M v) H.size)) (hK : KK D cI cS s) (hP : va_P D cls (wX cI cS a na nc N L u ++ wM cI b M v) H) (hD : va_D A (wX cI cS a na nc N L u ++ wM cI b M v)) (hS : va_S A H0 H locs) (hA : ∀ q, H0.size ≤ q → A q)
    (cw : CallW R s args own RX12 index y bytes maxL ret ws rm mc ms n) (hn : As.length = n) (hsize : ls.size = nL) (hst : st0 = As.reverse ++ .ref (b 0) :: rest) (hW : (rest.map fun v => v.category).sum ≤ 8) (hdg : decode cc pc = .ok (.invokevirtual index, 3)) (hf : cells + mc ≤ R.cells ∧ slots + ms ≤ R.slots)
    (kk : ∀ (r : Int32) (q : S) (H1 : Heap) (locs1 : List Loc), pi r q → va_P D cls (wX cI cS a na nc N L u ++ wM cI b (fL q) (fu q)) H1 → va_D A (wX cI cS a na nc N L u ++ wM cI b (fL q) (fu q)) → va_S A H0 H1 locs1 → W p l e R s m args below meth c H1 locs1 (cells + mc) (slots + ms) Q (F0 m (pc + 3) ls (.int r :: rest))) : W p l e R s m args below meth c H locs cells slots Q (F0 m pc ls st0) :=
  lz_qf (wr := wX cI cS a na nc N L u) F hM hK hP hD hS hA [45, 46, 47, 48, 49, 50, 51, 52, 53, 54, 55, 56, 57, 58, 59, 60] [0, 1, 2, 3, 4, 5, 6, 7, 8, 9, 10, 11, 12, 13, 14, 15, 16, 17, 18, 19, 20, 21, 22, 23, 24, 25, 26, 27, 28, 29, 30, 31, 32, 33, 34, 35, 36, 37, 38, 39, 40, 41, 42, 43, 44] (by decide) rfl rfl (by decide) (by decide) (lw_PM hP) (lw_DM hD) (ci := 12) rfl rfl cw hn hsize hst hW hdg hf kk
theorem lq_SX (F : CallFix p m c cc nL s args Ts own) (hM : Met l y ws rm (PS D cI cS (wX cI cS a na nc N L u) (.ref (a 0) :: As)) (vp_Si post) 0 0 (fun _ => False)) (hK : KK D cI cS s) (hP : va_P D cls (wX cI cS a na nc N L u ++ wM cI b M v) H)
    (cw : CallW R s args own RX11 index y bytes maxL ret ws rm 0 0 n) (hn : As.length = n) (hsize : ls.size = nL) (hst : st0 = As.reverse ++ .ref (a 0) :: rest) (hW : (rest.map fun v => v.category).sum ≤ 8) (hdg : decode cc pc = .ok (.invokevirtual index, 3)) (hf : cells + 0 ≤ R.cells ∧ slots + 0 ≤ R.slots)
    (kk : ∀ r : Int32, post r → W p l e R s m args below meth c H locs cells slots Q (F0 m (pc + 3) ls (.int r :: rest))) : W p l e R s m args below meth c H locs cells slots Q (F0 m pc ls st0) :=
  lz_sv F hM hK (lw_PX hP) (ci := 11) rfl rfl cw hn hsize hst hW hdg hf kk
theorem lq_TX (F : CallFix p m c cc nL s args Ts own) (hM : Met l y ws rm (PT D cI cS (wX cI cS a na nc N L u) (.ref (a 0) :: As)) (vp_Si post) 0 0 (fun _ => False)) (hK : KK D cI cS s) (hAB : AB s H) (hP : va_P D cls (wX cI cS a na nc N L u ++ wM cI b M v) H)
    (cw : CallW R s args own RX11 index y bytes maxL ret ws rm 0 0 n) (hn : As.length = n) (hsize : ls.size = nL) (hst : st0 = As.reverse ++ .ref (a 0) :: rest) (hW : (rest.map fun v => v.category).sum ≤ 8) (hdg : decode cc pc = .ok (.invokevirtual index, 3)) (hf : cells + 0 ≤ R.cells ∧ slots + 0 ≤ R.slots)
    (kk : ∀ r : Int32, post r → W p l e R s m args below meth c H locs cells slots Q (F0 m (pc + 3) ls (.int r :: rest))) : W p l e R s m args below meth c H locs cells slots Q (F0 m pc ls st0) :=
  wk_svT 0 F hM hK hAB (lw_PX hP) (ci := 11) rfl rfl cw hn hsize hst hW hdg hf kk
theorem lq_SM (F : CallFix p m c cc nL s args Ts own) (hM : Met l y ws rm (PS D cI cS (wM cI b M v) (.ref (b 0) :: As)) (vp_Si post) 0 0 (fun _ => False)) (hK : KK D cI cS s) (hP : va_P D cls (wX cI cS a na nc N L u ++ wM cI b M v) H)
    (cw : CallW R s args own RX12 index y bytes maxL ret ws rm 0 0 n) (hn : As.length = n) (hsize : ls.size = nL) (hst : st0 = As.reverse ++ .ref (b 0) :: rest) (hW : (rest.map fun v => v.category).sum ≤ 8) (hdg : decode cc pc = .ok (.invokevirtual index, 3)) (hf : cells + 0 ≤ R.cells ∧ slots + 0 ≤ R.slots)
    (kk : ∀ r : Int32, post r → W p l e R s m args below meth c H locs cells slots Q (F0 m (pc + 3) ls (.int r :: rest))) : W p l e R s m args below meth c H locs cells slots Q (F0 m pc ls st0) :=
  lz_sv F hM hK (lw_PM hP) (ci := 12) rfl rfl cw hn hsize hst hW hdg hf kk
end LQ
theorem AB.at {s : State} {A : Nat → Prop} {H : Heap} {locs : List Loc} (h : AB s s.heap) (hA : ∀ q : Nat, q < s.heap.size → ¬ A q) (hS : va_S A s.heap H locs) : AB s H := by
  obtain ⟨t, f, h1, h2⟩ := h
  exact ⟨t, f, h1.kept (fun q hq _ => hS.2.1 q hq (hA q hq)), h2.kept (fun q hq _ => hS.2.1 q hq (hA q hq))⟩
theorem sh_rel {s t n r r2 o z o2 z2 : Int32} {so sz so2 sz2 : Nat → Int32} {k : Nat} (hk : k < 4) (hR1 : ((s.toInt < 0 ∨ 3 < s.toInt ∨ t.toInt < -1 ∨ 1 < t.toInt ∨ (¬ t.toInt = -1 ∧ 40 < n.toInt)) → r.toInt = -2) ∧ (¬ (s.toInt < 0 ∨ 3 < s.toInt ∨ t.toInt < -1 ∨ 1 < t.toInt ∨ (¬ t.toInt = -1 ∧ 40 < n.toInt)) → ¬ t.toInt = -1 → n.toInt < 0 → r.toInt = -14) ∧ (¬ (s.toInt < 0 ∨ 3 < s.toInt ∨ t.toInt < -1 ∨ 1 < t.toInt ∨ (¬ t.toInt = -1 ∧ 40 < n.toInt)) → (t.toInt = -1 ∨ 0 ≤ n.toInt) → r.toInt = 1)) (hR2 : ((s.toInt < 0 ∨ 3 < s.toInt ∨ t.toInt < -1 ∨ 1 < t.toInt ∨ (¬ t.toInt = -1 ∧ 40 < n.toInt)) → r2.toInt = -2) ∧ (¬ (s.toInt < 0 ∨ 3 < s.toInt ∨ t.toInt < -1 ∨ 1 < t.toInt ∨ (¬ t.toInt = -1 ∧ 40 < n.toInt)) → ¬ t.toInt = -1 → n.toInt < 0 → r2.toInt = -14) ∧ (¬ (s.toInt < 0 ∨ 3 < s.toInt ∨ t.toInt < -1 ∨ 1 < t.toInt ∨ (¬ t.toInt = -1 ∧ 40 < n.toInt)) → (t.toInt = -1 ∨ 0 ≤ n.toInt) → r2.toInt = 1)) (hJ : (r.toInt = 1 → s.toInt = (k : Int) → o2.toInt = t.toInt ∧ (t.toInt = -1 → z2.toInt = 0) ∧ (¬ t.toInt = -1 → z2.toInt = n.toInt)) ∧ ((¬ r.toInt = 1 ∨ ¬ s.toInt = (k : Int)) → o2.toInt = o.toInt ∧ z2.toInt = z.toInt)) (hF : (¬ r2.toInt = 1 → so2 = so ∧ sz2 = sz) ∧ (r2.toInt = 1 → so2 = upd so s.toNatClampNeg t ∧ sz2 = upd sz s.toNatClampNeg (if t = -1 then 0 else n))) (ho : o.toInt = (so k).toInt) (hz : z.toInt = (sz k).toInt) : o2.toInt = (so2 k).toInt ∧ z2.toInt = (sz2 k).toInt := by
  have er : r.toInt = r2.toInt := by omega
  by_cases h : r2.toInt = 1
  · obtain ⟨e1, e2⟩ := hF.2 h
    have hs : 0 ≤ s.toInt ∧ s.toInt ≤ 3 := by omega
    rw [e1, e2]
    have u1 := upd_at (f := so) (i := s) (x := t) (b := 3) (j := k) hs
    have u2 := upd_at (f := sz) (i := s) (x := if t = -1 then 0 else n) (b := 3) (j := k) hs
    by_cases hsk : s.toInt = (k : Int)
    · have v1 := u1.1 hsk
      have v2 := u2.1 hsk
      have J := hJ.1 (by omega) hsk
      refine ⟨by omega, ?_⟩
      rw [v2]
      by_cases ht : t = -1
      · have ht2 : t.toInt = -1 := by rw [ht]; decide
        rw [if_pos ht, J.2.1 ht2]
        decide
      · have ht2 : ¬ t.toInt = -1 := fun w => ht (Int32.toInt_inj.mp (w.trans (by decide)))
        rw [if_neg ht, J.2.2 ht2]
    · have v1 := u1.2 hsk
      have v2 := u2.2 hsk
      have J := hJ.2 (Or.inr hsk)
      exact ⟨by omega, by omega⟩
  · obtain ⟨e1, e2⟩ := hF.1 h
    have J := hJ.2 (Or.inl (by omega))
    rw [e1, e2]
    exact ⟨by omega, by omega⟩
theorem sh_er {s t n r r2 : Int32} (hR1 : ((s.toInt < 0 ∨ 3 < s.toInt ∨ t.toInt < -1 ∨ 1 < t.toInt ∨ (¬ t.toInt = -1 ∧ 40 < n.toInt)) → r.toInt = -2) ∧ (¬ (s.toInt < 0 ∨ 3 < s.toInt ∨ t.toInt < -1 ∨ 1 < t.toInt ∨ (¬ t.toInt = -1 ∧ 40 < n.toInt)) → ¬ t.toInt = -1 → n.toInt < 0 → r.toInt = -14) ∧ (¬ (s.toInt < 0 ∨ 3 < s.toInt ∨ t.toInt < -1 ∨ 1 < t.toInt ∨ (¬ t.toInt = -1 ∧ 40 < n.toInt)) → (t.toInt = -1 ∨ 0 ≤ n.toInt) → r.toInt = 1)) (hR2 : ((s.toInt < 0 ∨ 3 < s.toInt ∨ t.toInt < -1 ∨ 1 < t.toInt ∨ (¬ t.toInt = -1 ∧ 40 < n.toInt)) → r2.toInt = -2) ∧ (¬ (s.toInt < 0 ∨ 3 < s.toInt ∨ t.toInt < -1 ∨ 1 < t.toInt ∨ (¬ t.toInt = -1 ∧ 40 < n.toInt)) → ¬ t.toInt = -1 → n.toInt < 0 → r2.toInt = -14) ∧ (¬ (s.toInt < 0 ∨ 3 < s.toInt ∨ t.toInt < -1 ∨ 1 < t.toInt ∨ (¬ t.toInt = -1 ∧ 40 < n.toInt)) → (t.toInt = -1 ∨ 0 ≤ n.toInt) → r2.toInt = 1)) : r.toInt = r2.toInt := by omega
theorem pa_rel {s t m m2 r r2 o z o2 z2 : Int32} {so sz so2 sz2 : Nat → Int32} {k : Nat} (hk : k < 4) (hR1 : (s.toInt < 0 ∨ 3 < s.toInt ∨ t.toInt < 0 ∨ 1 < t.toInt → r.toInt = -2) ∧ (0 ≤ s.toInt → s.toInt ≤ 3 → 0 ≤ t.toInt → t.toInt ≤ 1 → r.toInt = m.toInt)) (hR2 : (s.toInt < 0 ∨ 3 < s.toInt ∨ t.toInt < 0 ∨ 1 < t.toInt → r2.toInt = -2) ∧ (0 ≤ s.toInt → s.toInt ≤ 3 → 0 ≤ t.toInt → t.toInt ≤ 1 → r2.toInt = m2.toInt)) (hJ : (¬ r.toInt = -2 → s.toInt = (k : Int) → o2.toInt = t.toInt ∧ z2.toInt = m.toInt) ∧ ((r.toInt = -2 ∨ ¬ s.toInt = (k : Int)) → o2.toInt = o.toInt ∧ z2.toInt = z.toInt)) (hF : (r2.toInt = -2 → so2 = so ∧ sz2 = sz) ∧ (¬ r2.toInt = -2 → so2 = upd so s.toNatClampNeg t ∧ sz2 = upd sz s.toNatClampNeg m2)) (ho : o.toInt = (so k).toInt) (hz : z.toInt = (sz k).toInt) (hm : m.toInt = m2.toInt) : o2.toInt = (so2 k).toInt ∧ z2.toInt = (sz2 k).toInt := by
  have er : r.toInt = r2.toInt := by omega
  by_cases h : r2.toInt = -2
  · obtain ⟨e1, e2⟩ := hF.1 h
    have J := hJ.2 (Or.inl (by omega))
    rw [e1, e2]
    exact ⟨by omega, by omega⟩
  · obtain ⟨e1, e2⟩ := hF.2 h
    have hs : 0 ≤ s.toInt ∧ s.toInt ≤ 3 := by omega
    rw [e1, e2]
    have u1 := upd_at (f := so) (i := s) (x := t) (b := 3) (j := k) hs
    have u2 := upd_at (f := sz) (i := s) (x := m2) (b := 3) (j := k) hs
    by_cases hsk : s.toInt = (k : Int)
    · have v1 := u1.1 hsk
      have v2 := u2.1 hsk
      have J := hJ.1 (by omega) hsk
      exact ⟨by omega, by omega⟩
    · have v1 := u1.2 hsk
      have v2 := u2.2 hsk
      have J := hJ.2 (Or.inr hsk)
      exact ⟨by omega, by omega⟩
theorem lw_vin {i k : Int32} {L0 : Nat} (h0 : 0 ≤ i.toInt) (h1 : i.toInt + 6 ≤ (L0 : Int)) (hL : L0 ≤ 3072) (hk : Rg 0 5 k) : vp_in (i + k) L0 := by
  have e := rg_addE (x := i) (y := k) (a := 0) (b := 3072) (c := 0) (d := 5) ⟨h0, by omega⟩ hk (by decide) (by decide)
  obtain ⟨h2, h3⟩ := hk
  exact vp_in_iff.mpr ⟨by omega, by omega⟩
/-- the state of the law's loop -/
def ST (D : va_G) (cI cS : ClassId) (A : Nat → Prop) (s : State) (a b : Nat → Nat) (b0 : Nat) (i : Int32) (na nc N : Nat) (cx my : Nat → Int32) (R u v : SU) (H : Heap) (locs : List Loc) (ls : Array Slot) (cells slots : Nat) : Prop := CSL N cells slots ∧ INV cx my R v ∧ va_P D cls (wX cI cS a na nc N (LX cx) u ++ wM cI b (LM my R) v) H ∧ va_D A (wX cI cS a na nc N (LX cx) u ++ wM cI b (LM my R) v) ∧ va_S A s.heap H locs ∧ lv_has ls 4 [(3, .int i), (2, .ref (b 0)), (1, .ref (a 0)), (0, .ref b0)]
theorem wk_four {x : Int} (a : 0 ≤ x) (b : x ≤ 3) : x = 0 ∨ x = 1 ∨ x = 2 ∨ x = 3 := by omega
theorem wr_er {s i so sz so2 sz2 r r2 : Int} (h1 : ((s < 0 ∨ 3 < s → r = -2) ∧ (0 ≤ s → s ≤ 3 → so = -1 → r = -11) ∧ (0 ≤ s → s ≤ 3 → ¬ so = -1 → (i < 0 ∨ sz ≤ i) → r = -12) ∧ (0 ≤ s → s ≤ 3 → ¬ so = -1 → 0 ≤ i → i < sz → r = 1))) (h2 : ((s < 0 ∨ 3 < s → r2 = -2) ∧ (0 ≤ s → s ≤ 3 → so2 = -1 → r2 = -11) ∧ (0 ≤ s → s ≤ 3 → ¬ so2 = -1 → (i < 0 ∨ sz2 ≤ i) → r2 = -12) ∧ (0 ≤ s → s ≤ 3 → ¬ so2 = -1 → 0 ≤ i → i < sz2 → r2 = 1))) (he : 0 ≤ s → s ≤ 3 → so = so2 ∧ sz = sz2) : r = r2 := by
  by_cases a : 0 ≤ s ∧ s ≤ 3
  · obtain ⟨e1, e2⟩ := he a.1 a.2
    subst e1 e2
    by_cases b : so = -1
    · rw [h1.2.1 a.1 a.2 b, h2.2.1 a.1 a.2 b]
    · by_cases c : i < 0 ∨ sz ≤ i
      · rw [h1.2.2.1 a.1 a.2 b c, h2.2.2.1 a.1 a.2 b c]
      · rw [h1.2.2.2 a.1 a.2 b (by omega) (by omega), h2.2.2.2 a.1 a.2 b (by omega) (by omega)]
  · rw [h1.1 (by omega), h2.1 (by omega)]
theorem cp_er {s t i j n so to sz tz so2 to2 sz2 tz2 r r2 : Int} (h1 : ((s < 0 ∨ 3 < s ∨ t < 0 ∨ 3 < t → r = -2) ∧ (0 ≤ s → s ≤ 3 → 0 ≤ t → t ≤ 3 → (so = -1 ∨ to = -1) → r = -11) ∧ (0 ≤ s → s ≤ 3 → 0 ≤ t → t ≤ 3 → ¬ so = -1 → ¬ to = -1 → ¬ so = to → r = -13) ∧ (0 ≤ s → s ≤ 3 → 0 ≤ t → t ≤ 3 → ¬ so = -1 → ¬ to = -1 → so = to → (n < 0 ∨ i < 0 ∨ j < 0 ∨ sz < i + n ∨ tz < j + n) → r = -12) ∧ ((0 ≤ s ∧ s ≤ 3 ∧ 0 ≤ t ∧ t ≤ 3 ∧ ¬ so = -1 ∧ ¬ to = -1 ∧ so = to ∧ 0 ≤ n ∧ 0 ≤ i ∧ 0 ≤ j ∧ i + n ≤ sz ∧ j + n ≤ tz) → r = n))) (h2 : ((s < 0 ∨ 3 < s ∨ t < 0 ∨ 3 < t → r2 = -2) ∧ (0 ≤ s → s ≤ 3 → 0 ≤ t → t ≤ 3 → (so2 = -1 ∨ to2 = -1) → r2 = -11) ∧ (0 ≤ s → s ≤ 3 → 0 ≤ t → t ≤ 3 → ¬ so2 = -1 → ¬ to2 = -1 → ¬ so2 = to2 → r2 = -13) ∧ (0 ≤ s → s ≤ 3 → 0 ≤ t → t ≤ 3 → ¬ so2 = -1 → ¬ to2 = -1 → so2 = to2 → (n < 0 ∨ i < 0 ∨ j < 0 ∨ sz2 < i + n ∨ tz2 < j + n) → r2 = -12) ∧ ((0 ≤ s ∧ s ≤ 3 ∧ 0 ≤ t ∧ t ≤ 3 ∧ ¬ so2 = -1 ∧ ¬ to2 = -1 ∧ so2 = to2 ∧ 0 ≤ n ∧ 0 ≤ i ∧ 0 ≤ j ∧ i + n ≤ sz2 ∧ j + n ≤ tz2) → r2 = n))) (he : 0 ≤ s → s ≤ 3 → so = so2 ∧ sz = sz2) (hf : 0 ≤ t → t ≤ 3 → to = to2 ∧ tz = tz2) : r = r2 := by
  by_cases a : 0 ≤ s ∧ s ≤ 3 ∧ 0 ≤ t ∧ t ≤ 3
  · obtain ⟨a1, a2, a3, a4⟩ := a
    obtain ⟨e1, e2⟩ := he a1 a2
    obtain ⟨e3, e4⟩ := hf a3 a4
    subst e1 e2 e3 e4
    by_cases b : so = -1 ∨ to = -1
    · rw [h1.2.1 a1 a2 a3 a4 b, h2.2.1 a1 a2 a3 a4 b]
    · by_cases c : so = to
      · by_cases d : n < 0 ∨ i < 0 ∨ j < 0 ∨ sz < i + n ∨ tz < j + n
        · rw [h1.2.2.2.1 a1 a2 a3 a4 (fun z => b (Or.inl z)) (fun z => b (Or.inr z)) c d, h2.2.2.2.1 a1 a2 a3 a4 (fun z => b (Or.inl z)) (fun z => b (Or.inr z)) c d]
        · have k : 0 ≤ n ∧ 0 ≤ i ∧ 0 ≤ j ∧ i + n ≤ sz ∧ j + n ≤ tz := by clear h1 h2 he hf; omega
          rw [h1.2.2.2.2 ⟨a1, a2, a3, a4, fun z => b (Or.inl z), fun z => b (Or.inr z), c, k⟩, h2.2.2.2.2 ⟨a1, a2, a3, a4, fun z => b (Or.inl z), fun z => b (Or.inr z), c, k⟩]
      · rw [h1.2.2.1 a1 a2 a3 a4 (fun z => b (Or.inl z)) (fun z => b (Or.inr z)) c, h2.2.2.1 a1 a2 a3 a4 (fun z => b (Or.inl z)) (fun z => b (Or.inr z)) c]
  · have k : s < 0 ∨ 3 < s ∨ t < 0 ∨ 3 < t := by clear h1 h2 he hf; omega
    rw [h1.1 k, h2.1 k]

def u00 : SU := fun k j => cond (Nat.beq k 9) 1 (cond (Nat.beq k 11) 1 (cond (Nat.beq k 13) 1 (cond (Nat.beq k 15) 1 (cond (Nat.beq k 43) (-1) (cond (Nat.beq k 18) (cond (Nat.beq j 7) (-1) 0) 0)))))
def v00 : SU := fun k _ => cond (Nat.beq k 12) (-1) 0
def cx00 : Nat → Int32 := fun k => cond (Nat.beq k 5) 1 (cond (Nat.beq k 7) (-1) (cond (Nat.beq k 8) (-1) (cond (Nat.beq k 9) (-1) (cond (Nat.beq k 10) (-1) 0))))
def my00 : Nat → Int32 := fun k => cond (Nat.beq k 1) 1 0
def R00 : SU := fun k _ => cond (Nat.beq k 0) (-1) 0
theorem inv00 : INV cx00 my00 R00 v00 := ⟨by unfold TyX; decide +kernel, ⟨by decide +kernel, by decide +kernel, fun _ => (by decide : Rg (-1) 1 (-1 : Int32)), fun _ => (by decide : Rg 0 40 (0 : Int32)), ⟨by decide +kernel, by decide +kernel, fun _ _ _ => (by decide : Rg 0 4095 (0 : Int32)), fun _ _ _ => (by decide : Rg 0 4095 (0 : Int32))⟩, by decide +kernel⟩, ⟨fun _ => (by decide : Rg 0 4095 (0 : Int32)), rfl, fun _ => (by decide : Rg (-1) 11 (0 : Int32)), fun _ => (by decide : Rg 0 11 (0 : Int32)), fun _ => (by decide : Rg (-1) 6 (-1 : Int32))⟩, by unfold RLc; decide +kernel⟩
def lawW (cI cS : ClassId) (mp n nl pr pm pmc pu puc pa wi we tn tnl tp tm tmc tu tuc im iml dr ta tb re rl sh s0 sn0 s1 sn1 s2 sn2 s3 sn3 to ta1 ta2 ta3 ot tb1 tb2 tb3 sv sk sw mo m_near m_pairs m_gw m_szw m_mates m_way m_others m_tape m_sort m_size m_items m_hk m_hset m_hsort m_kept : Nat) : va_W := ((mp, .inr (11, [.ref n, .ref pr, .ref pa, .ref wi, .ref tn, .ref tp, .ref im, .int 0, .int 0, .ref dr, .ref ta, .ref re, .ref sh, .ref to, .ref ot, .ref sv])) :: (n, .inr (2, [.ref nl, .int 0, .int 0])) :: (nl, .inl (cI, 12, .inl (fun _ => 0))) :: (pr, .inr (3, [.ref n, .ref pm, .ref pu, .int 0])) :: (pm, .inr (1, [.ref pmc, .int 1])) :: (pmc, .inl (cI, 4096, .inl (fun _ => 0))) :: (pu, .inr (1, [.ref puc, .int 1])) :: (puc, .inl (cI, 0, .inl (fun _ => 0))) :: (pa, .inr (4, [.ref n, .ref pr])) :: (wi, .inr (10, [.ref n, .ref pr, .ref we, .int 0, .int 0, .int 0, .int 0, .int (-1)])) :: (we, .inl (cI, 5, .inl (fun _ => 0))) :: (tn, .inr (2, [.ref tnl, .int 0, .int 0])) :: (tnl, .inl (cI, 12, .inl (fun _ => 0))) :: (tp, .inr (3, [.ref tn, .ref tm, .ref tu, .int 0])) :: (tm, .inr (1, [.ref tmc, .int 1])) :: (tmc, .inl (cI, 4096, .inl (fun _ => 0))) :: (tu, .inr (1, [.ref tuc, .int 1])) :: (tuc, .inl (cI, 0, .inl (fun _ => 0))) :: (im, .inr (2, [.ref iml, .int 0, .int 0])) :: (iml, .inl (cI, 12, .inl (fun _ => 0))) :: (dr, .inr (0, [.int 1])) :: (ta, .inr (8, [.ref tb, .int 0])) :: (tb, .inl (cI, 120, .inl (fun _ => 0))) :: (re, .inr (5, [.ref ta, .ref n, .ref rl, .int 0, .int 0, .int 0, .int 0, .int 0])) :: (rl, .inl (cI, 12, .inl (fun _ => 0))) :: (sh, .inl (cS, 4, .inr (.inr (.inr (.inr (fun k => [s0, s1, s2, s3][k]?)))))) :: (s0, .inr (6, [.ref sn0, .int (-1), .int 0])) :: (sn0, .inl (cI, 40, .inl (fun _ => 0))) :: (s1, .inr (6, [.ref sn1, .int (-1), .int 0])) :: (sn1, .inl (cI, 40, .inl (fun _ => 0))) :: (s2, .inr (6, [.ref sn2, .int (-1), .int 0])) :: (sn2, .inl (cI, 40, .inl (fun _ => 0))) :: (s3, .inr (6, [.ref sn3, .int (-1), .int 0])) :: (sn3, .inl (cI, 40, .inl (fun _ => 0))) :: (to, .inr (9, [.ref n, .ref pr, .ref ta1, .ref ta2, .ref ta3, .int 0])) :: (ta1, .inl (cI, 12, .inl (fun _ => 0))) :: (ta2, .inl (cI, 12, .inl (fun _ => 0))) :: (ta3, .inl (cI, 12, .inl (fun _ => 0))) :: (ot, .inr (9, [.ref n, .ref pr, .ref tb1, .ref tb2, .ref tb3, .int 0])) :: (tb1, .inl (cI, 12, .inl (fun _ => 0))) :: (tb2, .inl (cI, 12, .inl (fun _ => 0))) :: (tb3, .inl (cI, 12, .inl (fun _ => 0))) :: (sv, .inr (7, [.ref sk, .ref sw])) :: (sk, .inl (cI, 4, .inl (fun _ => -1))) :: (sw, .inl (cI, 4, .inl (fun _ => 0))) :: (mo, .inr (12, [.int 0, .int 1, .ref m_near, .ref m_pairs, .ref m_gw, .ref m_szw, .ref m_mates, .ref m_way, .ref m_others, .ref m_tape, .int 0, .int 0, .int 0, .int 0, .int 0, .int 0, .ref m_sort, .ref m_size, .ref m_items, .ref m_hk, .ref m_hset, .ref m_hsort, .ref m_kept, .int 0])) :: (m_near, .inl (cI, 12, .inl (fun _ => 0))) :: (m_pairs, .inl (cI, 4096, .inl (fun _ => 0))) :: (m_gw, .inl (cI, 4096, .inl (fun _ => 0))) :: (m_szw, .inl (cI, 28672, .inl (fun _ => 0))) :: (m_mates, .inl (cI, 12, .inl (fun _ => 0))) :: (m_way, .inl (cI, 12, .inl (fun _ => 0))) :: (m_others, .inl (cI, 12, .inl (fun _ => 0))) :: (m_tape, .inl (cI, 120, .inl (fun _ => 0))) :: (m_sort, .inl (cI, 4, .inl (fun _ => -1))) :: (m_size, .inl (cI, 4, .inl (fun _ => 0))) :: (m_items, .inl (cI, 160, .inl (fun _ => 0))) :: (m_hk, .inl (cI, 4, .inl (fun _ => -1))) :: (m_hset, .inl (cI, 4, .inl (fun _ => 0))) :: (m_hsort, .inl (cI, 4, .inl (fun _ => 0))) :: (m_kept, .inl (cI, 28, .inl (fun _ => 0))) :: [])
