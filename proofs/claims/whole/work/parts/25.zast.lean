theorem kc_n1 : vp_nar .boolean 1 = 1 := rfl
theorem kc_n0 : vp_nar .boolean 0 = 0 := rfl
theorem kr_zastN {p : Program} {l : Launch} {e : Env} {R : Room} {s : State} {m : MethodId} {args : Array Value} {below : List Frame} {meth : Method} {c : Code} {Q : State → Prop} {cc : ByteArray} {nL : Nat} {own : String} {D : va_G} {cl : List vw_C} {tys : List (ClassId × FieldType)} {A : Nat → Prop} {pc : Nat} {lv : List (Nat × Value)} {st : List Value} {ws ws' : va_W} {u : Nat × Nat}
    (h : kc_C p s m args c cc nL own D cl tys A) (q0 t0 : Nat) {a : Nat} {cA : ClassId} {n : Nat} {f : Nat → Int32} {i x y : Int32} (hn : vp_nar .boolean x = y) (hdg : decode cc pc = .ok (.bastore, 1)) (ha : ws[q0]? = some (a, .inl (cA, n, .inl f))) (ht : tys[t0]? = some (cA, .boolean)) (hin : vp_in i n) (hw : ws.set q0 (a, .inl (cA, n, .inl (upd f i.toNatClampNeg y))) = ws') (kk : kc_W p l e R s m args below meth c D cl A nL Q (pc + 1) lv st ws' u) : kc_W p l e R s m args below meth c D cl A nL Q pc lv (.int x :: .int i :: .ref a :: st) ws u := by
  subst hn
  exact kr_zast h q0 t0 hdg ha ht hin hw kk
