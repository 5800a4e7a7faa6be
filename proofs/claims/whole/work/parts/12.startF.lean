theorem kc_startF {l : Launch} {y : MethodName} {bytes : ByteArray} {maxL : Nat} {ret : Option FieldType} {fr lo mc ms : Nat} {av : List Value} {D : va_G} {cl : List vw_C} {tys : List (ClassId × FieldType)} {w w2 : va_W} {r : Option Value} (own : String) (hy : plainFor y = true) (hcls : y.cls = own) (hlen : (lg_sl av).length ≤ maxL)
    (body : ∀ (p : Program) (e : Env) (s : State) (m : MethodId) (below : List Frame) (meth : Method) (c : Code), kc_C p s m av.toArray c bytes maxL own D cl tys (va_A w s.heap.size) → meth.sig.returnType = ret → meth.locks = false → meth.name = y.name →
      kc_W p l e { frames := fr, cells := mc, slots := ms, locals := lo } s m av.toArray below meth c D cl (va_A w s.heap.size) maxL (MQ below (kc_Post r D cl w w2 s.heap.size) av.toArray s mc ms (va_A w s.heap.size)) 0 (lv_args 0 av) [] w (0, 0)) :
    kc_M l y bytes maxL ret fr lo mc ms av D cl tys w r w2 := by
  intro sz
  refine va_MetF (cc := bytes) (maxL := maxL) (ret := ret) hy rfl ?_
  intro p e s m args below meth c s₁ B hml hv
  obtain ⟨rfl, hsz, hP, hK, hD0⟩ := hv
  subst hsz
  have hts := atoms_spec (ws := Cond.code y bytes maxL ret :: tw) B.pre
  have hown : s.vm.findClass own = some m.cls := by rw [← hcls]; exact findClass_of_methodNamed B.named
  have hnm : meth.name = y.name := (name_of_methodNamed B.named B.method).1
  have hl := lv_entry av (n := maxL) hlen
  rw [lg_entry_eq]
  exact body p e s m below meth c ⟨B.exec, B.bytes, hml, hown, fun w hw => hts w (List.mem_cons_of_mem _ hw), hK, fun q hq => Or.inr hq⟩ B.returns B.notSynchronized hnm s.heap [] _ hP hD0.self va_S.rf hl
