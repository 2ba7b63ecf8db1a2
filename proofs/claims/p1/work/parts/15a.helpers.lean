section LX
variable {p : Program} {l : Launch} {e : Env} {R : Room} {s : State} {m : MethodId} {args : Array Value} {below : List Frame} {meth : Method} {c : Code} {H : Heap} {locs : List Loc} {cells slots : Nat} {Q : State → Prop}
variable {pc : Nat} {ls : Array Slot} {rest st0 : List Value} {cc bytes : ByteArray} {nL maxL index n mc ms : Nat} {own : String} {y : MethodName} {ret : Option FieldType} {rm : Room} {Ts ws : List Cond} {D : va_G} {cI cS : ClassId} {wc : va_W} {b : Addr} {As : List Value} {ci : Nat} {q : vw_C} {fs : List Value} {post : Int32 → Prop}
/-- a reader that answers nothing, called on an object -/
theorem lz_sw (F : CallFix p m c cc nL s args Ts own) (hM : Met l y ws rm (PS D cI cS wc (.ref b :: As)) (va_Sv (fun _ => True)) 0 0 (fun _ => False)) (hK : KK D cI cS s) (hP : va_P D cls wc H) (hc : cls[ci]? = some q) (he : wc[0]? = some (b, .inr (ci, fs)))
    (cw : CallW R s args own q.1 index y bytes maxL ret ws rm 0 0 n) (hn : As.length = n) (hsize : ls.size = nL) (hst : st0 = As.reverse ++ .ref b :: rest) (hW : (rest.map fun v => v.category).sum ≤ 8) (hdg : decode cc pc = .ok (.invokevirtual index, 3)) (hf : cells ≤ R.cells ∧ slots ≤ R.slots)
    (kk : W p l e R s m args below meth c H locs cells slots Q (F0 m (pc + 3) ls rest)) : W p l e R s m args below meth c H locs cells slots Q (F0 m pc ls st0) :=
  va_csv (W.runV (As := As) (rest := rest) F hM cw ⟨lz_bS, va_recv hK.1 hP hc he, fun U hU hW => ⟨rfl, by rw [hU]; exact hP, hK.warm hW⟩⟩ rfl hn hsize hst (lv_room hW) hdg hf) (fun _ => kk)
end LX
