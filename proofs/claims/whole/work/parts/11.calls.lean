/-! contracts over worlds that are lists, and calls by them -/
section KD
/-- a contract's start: the arguments, and the world w -/
def kc_Pre (av : List Value) (D : va_G) (cl : List vw_C) (tys : List (ClassId × FieldType)) (w : va_W) (sz : Nat) : Array Value → State → Prop := va_Pc av (fun U => U.heap.size = sz ∧ va_P D cl w U.heap ∧ va_K D cl tys U ∧ va_D (fun _ => True) w)
/-- its end: the answer r, the world w2 -/
def kc_Post (r : Option Value) (D : va_G) (cl : List vw_C) (w w2 : va_W) (sz : Nat) : Array Value → State → Outcome → State → Prop := fun _ st o t => o = .returned r ∧ va_P D cl w2 t.heap ∧ va_D (va_A w sz) w2 ∧ va_F (va_A w sz) st t
/-- a method's contract: from w and the arguments av to the answer r and w2; mc cells of ms slots are made -/
def kc_M (l : Launch) (y : MethodName) (bytes : ByteArray) (maxL : Nat) (ret : Option FieldType) (fr lo mc ms : Nat) (av : List Value) (D : va_G) (cl : List vw_C) (tys : List (ClassId × FieldType)) (w : va_W) (r : Option Value) (w2 : va_W) : Prop :=
  ∀ sz : Nat, Met l y (Cond.code y bytes maxL ret :: tw) { frames := fr, cells := mc, slots := ms, locals := lo } (kc_Pre av D cl tys w sz) (kc_Post r D cl w w2 sz) mc ms (va_A w sz)
theorem kc_blind {av : List Value} {D : va_G} {cl : List vw_C} {tys : List (ClassId × FieldType)} {w : va_W} {sz : Nat} : FrameBlind (kc_Pre av D cl tys w sz) := fun a U g mk q => by
  obtain ⟨q0, q1, qP, qK, qD⟩ := q
  exact ⟨q0, q1, qP, va_K.moved (u := U) (U := U.calling g mk a) (Vm.Alike.refl U.vm) qK, qD⟩
theorem kc_start {l : Launch} {y : MethodName} {bytes : ByteArray} {maxL : Nat} {ret : Option FieldType} {fr lo mc ms : Nat} {av : List Value} {D : va_G} {cl : List vw_C} {tys : List (ClassId × FieldType)} {w w2 : va_W} {r : Option Value} (own : String) (hy : plainName y.cls = true) (hcls : y.cls = own) (hlen : (lg_sl av).length ≤ maxL)
    (body : ∀ (p : Program) (e : Env) (s : State) (m : MethodId) (below : List Frame) (meth : Method) (c : Code), kc_C p s m av.toArray c bytes maxL own D cl tys (va_A w s.heap.size) → meth.sig.returnType = ret → meth.locks = false → meth.name = y.name →
      kc_W p l e { frames := fr, cells := mc, slots := ms, locals := lo } s m av.toArray below meth c D cl (va_A w s.heap.size) maxL (MQ below (kc_Post r D cl w w2 s.heap.size) av.toArray s mc ms (va_A w s.heap.size)) 0 (lv_args 0 av) [] w (0, 0)) :
    kc_M l y bytes maxL ret fr lo mc ms av D cl tys w r w2 := by
  intro sz
  refine Met.ofW (cc := bytes) (maxL := maxL) (ret := ret) hy rfl ?_
  intro p e s m args below meth c s₁ B hml hv
  obtain ⟨rfl, hsz, hP, hK, hD0⟩ := hv
  subst hsz
  have hts := atoms_spec (ws := Cond.code y bytes maxL ret :: tw) B.pre
  have hown : s.vm.findClass own = some m.cls := by rw [← hcls]; exact findClass_of_methodNamed B.named
  have hnm : meth.name = y.name := (name_of_methodNamed B.named B.method).1
  have hl := lv_entry av (n := maxL) hlen
  rw [lg_entry_eq]
  exact body p e s m below meth c ⟨B.exec, B.bytes, hml, hown, fun w hw => hts w (List.mem_cons_of_mem _ hw), hK, fun q hq => Or.inr hq⟩ B.returns B.notSynchronized hnm s.heap [] _ hP hD0.self va_S.rf hl
end KD
section KE
variable {p : Program} {l : Launch} {e : Env} {R : Room} {s : State} {m : MethodId} {args : Array Value} {below : List Frame} {meth : Method} {c : Code} {Q : State → Prop}
variable {cc : ByteArray} {nL : Nat} {own : String} {D : va_G} {cl : List vw_C} {tys : List (ClassId × FieldType)} {A : Nat → Prop}
variable {pc : Nat} {lv lv' : List (Nat × Value)} {st st0 : List Value} {ws ws' w w2 : va_W} {u : Nat × Nat} {mc ms : Nat} {r : Option Value} {a : Array Value}
theorem kr_iret {v x : Int32} (h : kc_C p s m args c cc nL own D cl tys (va_A w s.heap.size)) (hr : meth.sig.returnType = some .int) (hlk : meth.locks = false) (hdg : decode cc pc = .ok (.ireturn, 1)) (hq : v = x) (hw : ws = w2) :
    kc_W p l e R s m args below meth c D cl (va_A w s.heap.size) nL (MQ below (kc_Post (some (.int x)) D cl w w2 s.heap.size) args s mc ms (va_A w s.heap.size)) pc lv [.int v] ws (mc, ms) := by
  subst hq; subst hw
  exact fun H locs ls hP hD hS hv => W.iret h.1 h.2.1 hr (fun t ht hW => ⟨rfl, by rw [ht]; exact hP, hD, hS.F ht⟩) hS.2.2 hdg hlk
theorem kr_zret {v x : Int32} (h : kc_C p s m args c cc nL own D cl tys (va_A w s.heap.size)) (hr : meth.sig.returnType = some .boolean) (hlk : meth.locks = false) (hdg : decode cc pc = .ok (.ireturn, 1)) (hn : narrow .boolean (.int v) = .int v) (hq : v = x) (hw : ws = w2) :
    kc_W p l e R s m args below meth c D cl (va_A w s.heap.size) nL (MQ below (kc_Post (some (.int x)) D cl w w2 s.heap.size) args s mc ms (va_A w s.heap.size)) pc lv [.int v] ws (mc, ms) := by
  subst hq; subst hw
  exact fun H locs ls hP hD hS hv => W.zret h.1 h.2.1 hr hn (fun t ht hW => ⟨rfl, by rw [ht]; exact hP, hD, hS.F ht⟩) hS.2.2 hdg hlk
theorem kr_vret (h : kc_C p s m args c cc nL own D cl tys (va_A w s.heap.size)) (hr : meth.sig.returnType = none) (hlk : meth.locks = false) (hdg : decode cc pc = .ok (.return_, 1)) (hw : ws = w2) :
    kc_W p l e R s m args below meth c D cl (va_A w s.heap.size) nL (MQ below (kc_Post none D cl w w2 s.heap.size) args s mc ms (va_A w s.heap.size)) pc lv [] ws (mc, ms) := by
  subst hw
  exact fun H locs ls hP hD hS hv => W.vret h.1 h.2.1 hr (fun t ht hW => ⟨rfl, by rw [ht]; exact hP, hD, hS.F ht⟩) hS.2.2 hdg hlk
/-- a call's run, over every heap that holds ws -/
def kc_R (p : Program) (l : Launch) (e : Env) (R : Room) (s : State) (m : MethodId) (args : Array Value) (below : List Frame) (meth : Method) (c : Code) (D : va_G) (cl : List vw_C) (A : Nat → Prop) (nL pc : Nat) (lv : List (Nat × Value)) (st0 st : List Value) (ws : va_W) (u : Nat × Nat) (mc ms : Nat) (w : va_W) (r : Option Value) (w2 : va_W) : Prop :=
  ∀ (H : Heap) (locs : List Loc) (ls : Array Slot), va_P D cl ws H → va_D A ws → lv_has ls nL lv → ∃ a : Array Value, va_Run p l e R s m args below meth c H locs u.1 u.2 mc ms (F0 m pc ls st0) st (kc_Post r D cl w w2 H.size a) (va_A w H.size)
theorem kc_after {H H1 : Heap} {locs L : List Loc} (hS : va_S A s.heap H locs) (hF : ∀ q, va_A w H.size q → A q) (hz : H.size ≤ H1.size) (hk : ∀ q : Nat, q < H.size → ¬ va_A w H.size q → H1[q]? = H[q]?) (hL : ∀ q ∈ L, va_A w H.size q.base) : va_S A s.heap H1 (locs ++ L) :=
  ⟨Nat.le_trans hS.1 hz, fun q h1 h2 => by rw [hk q (Nat.lt_of_lt_of_le h1 hS.1) (fun z => h2 (hF q z))]; exact hS.2.1 q h1 h2, fun q hq => by
    rcases List.mem_append.mp hq with h | h
    · exact hS.2.2 q h
    · exact hF _ (hL q h)⟩
/-- a call of a method that sees no cell -/
theorem kr_run0 (h : kc_C p s m args c cc nL own D cl tys A) (hr : kc_R p l e R s m args below meth c D cl A nL pc lv st0 st ws u mc ms [] r []) (kk : kc_W p l e R s m args below meth c D cl A nL Q (pc + 3) lv (r.toList ++ st) ws (u.1 + mc, u.2 + ms)) : kc_W p l e R s m args below meth c D cl A nL Q pc lv st0 ws u := by
  intro H locs ls hP hD hS hv T hT X
  obtain ⟨a, hrun⟩ := hr H locs ls hP hD hv
  obtain ⟨v, st₀, t, T', L, h0, X', hL, e1, e2, ⟨hv', -, -, hz, hk⟩, stp⟩ := hrun T hT X
  cases hv'
  rw [h0] at hz hk
  have hF : ∀ q, va_A ([] : va_W) H.size q → A q := fun q hq => by
    rcases hq with ⟨k, e, hk⟩ | hq
    · cases hk
    · exact h.2.2.2.2.2.2 q (Nat.le_trans hS.1 hq)
  have hP1 : va_P D cl ws t.heap := hP.kept (fun k q hq => hk q.1 ((hP k q hq).lt) (fun z => by
    rcases z with ⟨k, e, hk⟩ | hq'
    · cases hk
    · exact absurd ((hP k q hq).lt) (Nat.not_lt.mpr hq')))
  obtain ⟨t2, a1, b1⟩ := kk t.heap (locs ++ L) ls hP1 hD (kc_after hS hF hz hk hL) hv T' e1 X'
  exact ⟨t2, stp t2 a1, b1⟩
/-- a call of a method that sees the whole world -/
theorem kr_run (h : kc_C p s m args c cc nL own D cl tys A) (hr : kc_R p l e R s m args below meth c D cl A nL pc lv st0 st ws u mc ms ws r w2) (kk : kc_W p l e R s m args below meth c D cl A nL Q (pc + 3) lv (r.toList ++ st) w2 (u.1 + mc, u.2 + ms)) : kc_W p l e R s m args below meth c D cl A nL Q pc lv st0 ws u := by
  intro H locs ls hP hD hS hv T hT X
  obtain ⟨a, hrun⟩ := hr H locs ls hP hD hv
  obtain ⟨v, st₀, t, T', L, h0, X', hL, e1, e2, ⟨hv', hP1, hD1, hz, hk⟩, stp⟩ := hrun T hT X
  cases hv'
  rw [h0] at hz hk
  have hF : ∀ q, va_A ws H.size q → A q := fun q hq => by
    rcases hq with ⟨k, e, hk⟩ | hq
    · exact hD.2 k _ hk
    · exact h.2.2.2.2.2.2 q (Nat.le_trans hS.1 hq)
  obtain ⟨t2, a1, b1⟩ := kk t.heap (locs ++ L) ls hP1 (hD1.weaken (fun k q _ h => hF q.1 h)) (kc_after hS hF hz hk hL) hv T' e1 X'
  exact ⟨t2, stp t2 a1, b1⟩
theorem kc_fm {α β : Type} {f : α → Option β} {is : List α} {w : List β} (h : is.map f = w.map some) : is.filterMap f = w := by
  induction is generalizing w with
  | nil => cases w with
    | nil => rfl
    | cons b w => simp at h
  | cons i is ih => cases w with
    | nil => simp at h
    | cons b w =>
      simp only [List.map_cons, List.cons.injEq] at h
      rw [List.filterMap_cons, h.1, ih h.2]
/-- a call of a method that sees the cells at the places isC; the rest at isR; what comes is laid anew by the places pm -/
theorem kr_runP (h : kc_C p s m args c cc nL own D cl tys A) (hr : kc_R p l e R s m args below meth c D cl A nL pc lv st0 st ws u mc ms w r w2) (isC isR pm : List Nat) {wr : va_W} (hC : isC.map (fun i => ws[i]?) = w.map some) (hRr : isR.map (fun i => ws[i]?) = wr.map some) (hn : va_nd isR = true) (hdis : ∀ i ∈ isR, i ∉ isC)
    (hpm : pm.map (fun i => (wr ++ w2)[i]?) = ws'.map some) (hpn : va_nd pm = true) (kk : kc_W p l e R s m args below meth c D cl A nL Q (pc + 3) lv (r.toList ++ st) ws' (u.1 + mc, u.2 + ms)) : kc_W p l e R s m args below meth c D cl A nL Q pc lv st0 ws u := by
  intro H locs ls hP hD hS hv T hT X
  obtain ⟨a, hrun⟩ := hr H locs ls hP hD hv
  obtain ⟨v, st₀, t, T', L, h0, X', hL, e1, e2, ⟨hv', hP1, hD1, hz, hk⟩, stp⟩ := hrun T hT X
  cases hv'
  rw [h0] at hz hk
  have hF := va_free (wc := w) hD hS h.2.2.2.2.2.2 isC hC
  obtain ⟨hP2, hD2⟩ := va_join (wr := wr) (w1 := w2) hP hD isC isR hC hRr hn hdis hk hF hP1 hD1
  obtain ⟨t2, a1, b1⟩ := kk t.heap (locs ++ L) ls (hP2.sub pm (kc_fm hpm)) (hD2.sub pm hpn hpm) (kc_after hS hF hz hk hL) hv T' e1 X'
  exact ⟨t2, stp t2 a1, b1⟩
/-- the words of a static method, of an instance method -/
def kc_ys (y : MethodName) (bytes : ByteArray) (maxL : Nat) (ret : Option FieldType) (n : Nat) : Prop := Cond.static y ∈ tw ∧ Cond.initialized y.cls ∈ tw ∧ Cond.code y bytes maxL ret ∈ tw ∧ (y.cls ≠ "java/lang/invoke/MethodHandle" ∧ y.cls ≠ "java/lang/invoke/VarHandle" ∧ (parseMethodDescriptor y.desc).map (fun d => d.parameters.length) = some n)
def kc_yv (y : MethodName) (bytes : ByteArray) (maxL : Nat) (ret : Option FieldType) (C : String) (n : Nat) : Prop := Cond.instanceMethod y ∈ tw ∧ Cond.selects C y y ∈ tw ∧ Cond.initialized C ∈ tw ∧ Cond.code y bytes maxL ret ∈ tw ∧ (y.cls = C ∧ y.cls ≠ "java/lang/invoke/MethodHandle" ∧ y.cls ≠ "java/lang/invoke/VarHandle" ∧ (parseMethodDescriptor y.desc).map (fun d => d.parameters.length) = some n)
theorem kc_rS (h : kc_C p s m args c cc nL own D cl tys A) {y : MethodName} {bytes : ByteArray} {maxL : Nat} {ret : Option FieldType} {fr lo idx n : Nat} {av : List Value} (hM : kc_M l y bytes maxL ret fr lo mc ms av D cl tys w r w2) (hml : Cond.methodLink own idx y ∈ tw) (hy : kc_ys y bytes maxL ret n) (hdg : decode cc pc = .ok (.invokestatic idx, 3)) (hn : av.length = n) (hst : st0 = av.reverse ++ st) (hR : fr + 1 ≤ R.frames ∧ 8 + (maxL + 11) + lo ≤ R.locals) (hf : u.1 + mc ≤ R.cells ∧ u.2 + ms ≤ R.slots) (hcat : (st.map fun v => v.category).sum ≤ 8) (isC : List Nat) (hC : isC.map (fun i => ws[i]?) = w.map some) (hCn : va_nd isC = true) :
    kc_R p l e R s m args below meth c D cl A nL pc lv st0 st ws u mc ms w r w2 := by
  intro H locs ls hP hD hv
  refine ⟨av.toArray, va_runS (As := av) (rest := st) ⟨h.1, h.2.1, h.2.2.1, h.2.2.2.1, h.2.2.2.2.1⟩ (hM H.size) (va_cwS n h.2.2.2.2.1 (fun x hx => tw_good x ?_) rfl rfl rfl hy.2.2.2 hR) ⟨kc_blind, fun U hU hW => ⟨rfl, by rw [hU], by rw [hU]; exact hP.sub isC (kc_fm hC), va_K.moved hW.alike h.2.2.2.2.2.1, (hD.sub isC hCn hC).weaken (fun _ _ _ _ => trivial)⟩⟩ rfl hn hv.1 hst (lv_room hcat) hdg hf⟩
  simp only [va_wsS, List.mem_append, List.mem_cons, List.not_mem_nil, or_false] at hx
  rcases hx with (rfl | rfl | rfl) | rfl | hx
  · exact hml
  · exact hy.1
  · exact hy.2.1
  · exact hy.2.2.1
  · exact hx
theorem kc_rV (h : kc_C p s m args c cc nL own D cl tys A) {y : MethodName} {bytes : ByteArray} {maxL : Nat} {ret : Option FieldType} {fr lo idx n : Nat} {C : String} {b : Nat} {av : List Value} (hM : kc_M l y bytes maxL ret fr lo mc ms (.ref b :: av) D cl tys w r w2) (hml : Cond.methodLink own idx y ∈ tw) (hy : kc_yv y bytes maxL ret C n) (hdg : decode cc pc = .ok (.invokevirtual idx, 3)) (hn : av.length = n) (hst : st0 = av.reverse ++ .ref b :: st) (hR : fr + 1 ≤ R.frames ∧ 8 + (maxL + 11) + lo ≤ R.locals) (hf : u.1 + mc ≤ R.cells ∧ u.2 + ms ≤ R.slots) (hcat : (st.map fun v => v.category).sum ≤ 8) (isC : List Nat) (hC : isC.map (fun i => ws[i]?) = w.map some) (hCn : va_nd isC = true) (q0 : Nat) {ci : Nat} {q : vw_C} {fs : List Value} (hc : cl[ci]? = some q) (hcC : q.1 = C) (he : ws[q0]? = some (b, .inr (ci, fs))) :
    kc_R p l e R s m args below meth c D cl A nL pc lv st0 st ws u mc ms w r w2 := by
  intro H locs ls hP hD hv
  subst hcC
  refine ⟨(.ref b :: av).toArray, va_runV (As := av) (rest := st) ⟨h.1, h.2.1, h.2.2.1, h.2.2.2.1, h.2.2.2.2.1⟩ (hM H.size) (cwV n h.2.2.2.2.1 (fun x hx => tw_good x ?_) rfl rfl rfl hy.2.2.2.2 hR) ⟨kc_blind, va_recv h.2.2.2.2.2.1 hP hc he, fun U hU hW => ⟨rfl, by rw [hU], by rw [hU]; exact hP.sub isC (kc_fm hC), va_K.moved hW.alike h.2.2.2.2.2.1, (hD.sub isC hCn hC).weaken (fun _ _ _ _ => trivial)⟩⟩ rfl hn hv.1 hst (lv_room hcat) hdg hf⟩
  simp only [wsV, List.mem_append, List.mem_cons, List.not_mem_nil, or_false] at hx
  rcases hx with (rfl | rfl | rfl | rfl) | rfl | hx
  · exact hml
  · exact hy.1
  · exact hy.2.1
  · exact hy.2.2.1
  · exact hy.2.2.2.1
  · exact hx
/-- the same rows, the answer an int with a name, or none -/
theorem kr_i0 (h : kc_C p s m args c cc nL own D cl tys A) {z : Int32} (hr : kc_R p l e R s m args below meth c D cl A nL pc lv st0 st ws u 0 0 [] (some (.int z)) []) (kk : ∀ v : Int32, v = z → kc_W p l e R s m args below meth c D cl A nL Q (pc + 3) lv (.int v :: st) ws u) : kc_W p l e R s m args below meth c D cl A nL Q pc lv st0 ws u := kr_run0 h hr (kk _ rfl)
theorem kr_iA (h : kc_C p s m args c cc nL own D cl tys A) {z : Int32} (hr : kc_R p l e R s m args below meth c D cl A nL pc lv st0 st ws u 0 0 ws (some (.int z)) w2) (kk : ∀ v : Int32, v = z → kc_W p l e R s m args below meth c D cl A nL Q (pc + 3) lv (.int v :: st) w2 u) : kc_W p l e R s m args below meth c D cl A nL Q pc lv st0 ws u := kr_run h hr (kk _ rfl)
theorem kr_vA (h : kc_C p s m args c cc nL own D cl tys A) (hr : kc_R p l e R s m args below meth c D cl A nL pc lv st0 st ws u 0 0 ws none w2) (kk : kc_W p l e R s m args below meth c D cl A nL Q (pc + 3) lv st w2 u) : kc_W p l e R s m args below meth c D cl A nL Q pc lv st0 ws u := kr_run h hr kk
/-- Math.max of two ints, by the library's contract -/
theorem kr_mmax (h : kc_C p s m args c cc nL own D cl tys A) {index : Nat} {x y : Int32} (hlink : Cond.methodLink own index Lib.Math.max.name ∈ tw) (hy : Cond.static Lib.Math.max.name ∈ tw ∧ Cond.initialized "java/lang/Math" ∈ tw ∧ Cond.code Lib.Math.max.name Lib.Math.max.code 2 (some .int) ∈ tw) (hdg : decode cc pc = .ok (.invokestatic index, 3)) (hf : 1 ≤ R.frames) (hlo : (st.map fun v => v.category).sum + 13 ≤ R.locals) (hc : u.1 ≤ R.cells) (hs : u.2 ≤ R.slots)
    (kk : ∀ v : Int32, v = (if x < y then y else x) → kc_W p l e R s m args below meth c D cl A nL Q (pc + 3) lv (.int v :: st) ws u) : kc_W p l e R s m args below meth c D cl A nL Q pc lv (.int y :: .int x :: st) ws u :=
  fun H locs ls hP hD hS hv => va_mmax h.1 h.2.1 (h.2.2.1.trans hv.1.symm) h.2.2.2.1 (h.2.2.2.2.1 _ hlink) (h.2.2.2.2.1 _ hy.1) (h.2.2.2.2.1 _ hy.2.1) (h.2.2.2.2.1 _ hy.2.2) hf hlo hc hs hdg (kk _ rfl H locs ls hP hD hS hv)
end KE
