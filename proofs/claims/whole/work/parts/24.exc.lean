/-! methods that may throw, and calls of them under a handler: over the rows vx_ of the printed text -/
/-- words on classes that stay, though they are no links -/
def fw : List Cond := lw_tbl.filter (fun w => w.onTables && w.keepsFace)
theorem fw_to {s U : State} (hW : s.WarmedH U.vm) {w : Cond} (hg : w ∈ fw) {a a' : Array Value} (h : w.before a s = true) : w.before a' U = true := by
  have hq := (List.mem_filter.mp hg).2
  simp only [Bool.and_eq_true] at hq
  have h1 : w.before a (s.setVm U.vm) = true := Cond.before_shiftedFace (State.Shifted.of_warmed hW) _ hq.2 h
  exact va_tabs hq.1 (u := s.setVm U.vm) (U := U) rfl h1
def kc_sl : List (Nat × String) := [(61, "a number is out of range"), (74, "no such kind, or an operand is not as said"), (82, "an operand is used already"), (90, "the level is too high"), (98, "there are too many policies"), (108, "no such policy"), (114, "no such sort"), (128, "stopped"), (129, "forbidden"), (131, "too deep"), (141, "no such sort or what"), (143, "the suggestion is of another kind")]
def kc_nl : List (String × String) := [("java/lang/IllegalArgumentException", "java/lang/IllegalStateException"), ("java/lang/IllegalArgumentException", "java/lang/UnsupportedOperationException"), ("java/lang/IllegalArgumentException", "java/lang/ArithmeticException"), ("java/lang/IllegalStateException", "java/lang/IllegalArgumentException"), ("java/lang/IllegalStateException", "java/lang/UnsupportedOperationException"), ("java/lang/IllegalStateException", "java/lang/ArithmeticException"), ("java/lang/UnsupportedOperationException", "java/lang/IllegalArgumentException"), ("java/lang/UnsupportedOperationException", "java/lang/IllegalStateException"), ("java/lang/UnsupportedOperationException", "java/lang/ArithmeticException"), ("java/lang/ArithmeticException", "java/lang/IllegalArgumentException"), ("java/lang/ArithmeticException", "java/lang/IllegalStateException"), ("java/lang/ArithmeticException", "java/lang/UnsupportedOperationException")]
/-- what a throw, or a catch, asks of the machine's tables and of Throwable's statics -/
def kc_T (A : Nat → Prop) (U : State) : Prop := vx_Zq Bundle.tN "UNASSIGNED_STACK" Bundle.steD A U U.heap ∧ vx_Zq Bundle.tN "SUPPRESSED_SENTINEL" Bundle.listD A U U.heap ∧ (∀ w ∈ fw, w.before #[] U = true) ∧ (∀ q ∈ kc_sl, ∃ sa : Nat, vk_R "PolicyMonitor" q.1 q.2 sa U) ∧ ∀ q ∈ kc_nl, va_Nc q.1 q.2 U
theorem kc_T.to {A B : Nat → Prop} {u U : State} (h : kc_T A u) (hW : u.WarmedH U.vm) (hAB : ∀ q, B q → A q) (hq : ∀ a : Nat, a < u.heap.size → ¬ A a → U.heap[a]? = u.heap[a]?) : kc_T B U := by
  obtain ⟨h1, h2, h3, h4, h5⟩ := h
  refine ⟨((h1.kept hq).moved hW.alike).narrow hAB, ((h2.kept hq).moved hW.alike).narrow hAB, fun w hw => fw_to hW hw (h3 w hw), fun z hz => ?_, fun z hz => (h5 z hz).moved hW.alike⟩
  obtain ⟨sa, hs⟩ := h4 z hz
  exact ⟨sa, hs.warm hW⟩
section KX
def kc_PreX (av : List Value) (D : va_G) (cl : List vw_C) (tys : List (ClassId × FieldType)) (w : va_W) (sz : Nat) : Array Value → State → Prop := va_Pc av (fun U => U.heap.size = sz ∧ va_P D cl w U.heap ∧ va_K D cl tys U ∧ va_D (fun _ => True) w ∧ kc_T (va_A w sz) U)
/-- the end of a method that may throw: .inl: an int; .inr: an exception of that class -/
def kc_QX (o : Int32 ⊕ String) (D : va_G) (cl : List vw_C) (w w2 : va_W) (sz : Nat) : Array Value → State → Outcome → State → Prop := fun a st oc t => ∃ r : Int32, o = .inl r ∧ kc_Post (some (.int r)) D cl w w2 sz a st oc t
def kc_XX (o : Int32 ⊕ String) (D : va_G) (cl : List vw_C) (w w2 : va_W) (sz : Nat) : String → State → State → Prop := fun E st t => o = .inr E ∧ va_P D cl w2 t.heap ∧ va_D (va_A w sz) w2 ∧ va_F (va_A w sz) st t
def kc_MX (l : Launch) (y : MethodName) (bytes : ByteArray) (maxL : Nat) (ret : Option FieldType) (fr lo mc ms : Nat) (av : List Value) (D : va_G) (cl : List vw_C) (tys : List (ClassId × FieldType)) (w : va_W) (o : Int32 ⊕ String) (w2 : va_W) : Prop :=
  ∀ sz : Nat, vx_Met l y (Cond.code y bytes maxL ret :: tw) { frames := fr, cells := mc, slots := ms, locals := lo } (kc_PreX av D cl tys w sz) (kc_QX o D cl w w2 sz) (kc_XX o D cl w w2 sz) mc ms (va_A w sz)
/-- a method with handlers that always answers -/
def kc_MW (l : Launch) (y : MethodName) (bytes : ByteArray) (maxL : Nat) (ret : Option FieldType) (hh : List (Nat × Nat × Nat × Nat)) (fr lo mc ms : Nat) (av : List Value) (D : va_G) (cl : List vw_C) (tys : List (ClassId × FieldType)) (w : va_W) (r : Option Value) (w2 : va_W) : Prop :=
  ∀ sz : Nat, Met l y (Cond.codeWith y bytes maxL ret hh :: tw) { frames := fr, cells := mc, slots := ms, locals := lo } (kc_PreX av D cl tys w sz) (kc_Post r D cl w w2 sz) mc ms (va_A w sz)
theorem kc_blindX {av : List Value} {D : va_G} {cl : List vw_C} {tys : List (ClassId × FieldType)} {w : va_W} {sz : Nat} : FrameBlind (kc_PreX av D cl tys w sz) := fun a U g mk q => by
  obtain ⟨q0, q1, qP, qK, qD, qT⟩ := q
  exact ⟨q0, q1, qP, va_K.moved (u := U) (U := U.calling g mk a) (Vm.Alike.refl U.vm) qK, qD, qT.to (u := U) (U := U.calling g mk a) (State.WarmedH.refl U) (fun _ h => h) (fun _ _ _ => rfl)⟩
theorem kc_startX {l : Launch} {y : MethodName} {bytes : ByteArray} {maxL : Nat} {ret : Option FieldType} {fr lo mc ms : Nat} {av : List Value} {D : va_G} {cl : List vw_C} {tys : List (ClassId × FieldType)} {w w2 : va_W} {o : Int32 ⊕ String} (own : String) (hy : plainName y.cls = true) (hcls : y.cls = own) (hlen : (lg_sl av).length ≤ maxL)
    (body : ∀ (p : Program) (e : Env) (s : State) (m : MethodId) (below : List Frame) (meth : Method) (c : Code), kc_C p s m av.toArray c bytes maxL own D cl tys (va_A w s.heap.size) → meth.sig.returnType = ret → meth.locks = false → (∀ x ∈ c.exceptionTable.toList, False) → kc_T (va_A w s.heap.size) s →
      kc_W p l e { frames := fr, cells := mc, slots := ms, locals := lo } s m av.toArray below meth c D cl (va_A w s.heap.size) maxL (vx_MQ below (kc_QX o D cl w w2 s.heap.size) (kc_XX o D cl w w2 s.heap.size) av.toArray s mc ms (va_A w s.heap.size)) 0 (lv_args 0 av) [] w (0, 0)) :
    kc_MX l y bytes maxL ret fr lo mc ms av D cl tys w o w2 := by
  intro sz
  refine vx_ofW (cc := bytes) (maxL := maxL) (ret := ret) hy rfl ?_
  intro p e s m args below meth c s₁ B hml hnh hv
  obtain ⟨rfl, hsz, hP, hK, hD0, hT⟩ := hv
  subst hsz
  have hts := atoms_spec (ws := Cond.code y bytes maxL ret :: tw) B.pre
  have hown : s.vm.findClass own = some m.cls := by rw [← hcls]; exact findClass_of_methodNamed B.named
  have hl := lv_entry av (n := maxL) hlen
  rw [lg_entry_eq]
  exact body p e s m below meth c ⟨B.exec, B.bytes, hml, hown, fun w hw => hts w (List.mem_cons_of_mem _ hw), hK, fun q hq => Or.inr hq⟩ B.returns B.notSynchronized hnh hT s.heap [] _ hP hD0.self va_S.rf hl
theorem kc_startW {l : Launch} {y : MethodName} {bytes : ByteArray} {maxL : Nat} {ret : Option FieldType} {hh : List (Nat × Nat × Nat × Nat)} {fr lo mc ms : Nat} {av : List Value} {D : va_G} {cl : List vw_C} {tys : List (ClassId × FieldType)} {w w2 : va_W} {r : Option Value} (own : String) (hy : plainName y.cls = true) (hcls : y.cls = own) (hlen : (lg_sl av).length ≤ maxL)
    (body : ∀ (p : Program) (e : Env) (s : State) (m : MethodId) (below : List Frame) (meth : Method) (c : Code), kc_C p s m av.toArray c bytes maxL own D cl tys (va_A w s.heap.size) → meth.sig.returnType = ret → meth.locks = false → c.exceptionTable.toList = tableOf hh → kc_T (va_A w s.heap.size) s →
      kc_W p l e { frames := fr, cells := mc, slots := ms, locals := lo } s m av.toArray below meth c D cl (va_A w s.heap.size) maxL (MQ below (kc_Post r D cl w w2 s.heap.size) av.toArray s mc ms (va_A w s.heap.size)) 0 (lv_args 0 av) [] w (0, 0)) :
    kc_MW l y bytes maxL ret hh fr lo mc ms av D cl tys w r w2 := by
  intro sz
  refine va_MetW (cc := bytes) (maxL := maxL) (ret := ret) (hh := hh) hy rfl ?_
  intro p e s m args below meth c s₁ B hml hv
  obtain ⟨rfl, hsz, hP, hK, hD0, hT⟩ := hv
  subst hsz
  have hts := atoms_spec (ws := Cond.codeWith y bytes maxL ret hh :: tw) B.pre
  have hown : s.vm.findClass own = some m.cls := by rw [← hcls]; exact findClass_of_methodNamed B.named
  have hl := lv_entry av (n := maxL) hlen
  have htab := vx_table (x := y) B (hts _ List.mem_cons_self)
  rw [lg_entry_eq]
  exact body p e s m below meth c ⟨B.exec, B.bytes, hml, hown, fun w hw => hts w (List.mem_cons_of_mem _ hw), hK, fun q hq => Or.inr hq⟩ B.returns B.notSynchronized htab hT s.heap [] _ hP hD0.self va_S.rf hl
end KX
section KY
variable {p : Program} {l : Launch} {e : Env} {R : Room} {s : State} {m : MethodId} {args : Array Value} {below : List Frame} {meth : Method} {c : Code} {Q : State → Prop}
variable {cc : ByteArray} {nL : Nat} {own : String} {D : va_G} {cl : List vw_C} {tys : List (ClassId × FieldType)} {A : Nat → Prop}
variable {pc : Nat} {lv lv' : List (Nat × Value)} {st st0 : List Value} {ws ws' w w2 wr : va_W} {u : Nat × Nat} {mc ms : Nat} {o : Int32 ⊕ String}
theorem kr_iretX {v : Int32} (h : kc_C p s m args c cc nL own D cl tys (va_A w s.heap.size)) (hr : meth.sig.returnType = some .int) (hlk : meth.locks = false) (hdg : decode cc pc = .ok (.ireturn, 1)) (hq : o = .inl v) (hw : ws = w2) (h1 : u.1 ≤ mc) (h2 : u.2 ≤ ms) :
    kc_W p l e R s m args below meth c D cl (va_A w s.heap.size) nL (vx_MQ below (kc_QX o D cl w w2 s.heap.size) (kc_XX o D cl w w2 s.heap.size) args s mc ms (va_A w s.heap.size)) pc lv [.int v] ws u := by
  subst hq; subst hw
  exact fun H locs ls hP hD hS hv => vx_ret (W.widen h1 h2 (W.iret h.1 h.2.1 hr (fun t ht hW => ⟨v, rfl, rfl, by rw [ht]; exact hP, hD, hS.F ht⟩) hS.2.2 hdg hlk))
/-- the words that 'throw new X(text)' asks -/
def kc_tx (own : String) (i1 i3 : Nat) (X : String) : Prop := Bundle.fit X = true ∧ Cond.classLink own i1 X ∈ tw ∧ Cond.initialized X ∈ tw ∧ (∀ w ∈ vx_atS own i3 X ["java/lang/RuntimeException", "java/lang/Exception"], w ∈ tw ∨ w ∈ fw) ∧ (∀ w ∈ Cond.classLink own i1 X :: Cond.initialized X :: vx_atS own i3 X ["java/lang/RuntimeException", "java/lang/Exception"], vx_ot w = true)
theorem kr_throw (h : kc_C p s m args c cc nL "PolicyMonitor" D cl tys (va_A w s.heap.size)) (hlk : meth.locks = false) (hnh : ∀ x ∈ c.exceptionTable.toList, False) (hT : kc_T (va_A w s.heap.size) s) (hl : l.stackTraces = false)
    {X tx : String} {i1 i2 i3 : Nat} (hX : kc_tx "PolicyMonitor" i1 i3 X) (hsl : (i2, tx) ∈ kc_sl)
    (hd0 : decode cc pc = .ok (.new i1, 3)) (hd3 : decode cc (pc + 3) = .ok (.dup, 1)) (hd4 : decode cc (pc + 4) = .ok (.ldc i2, 2)) (hd6 : decode cc (pc + 6) = .ok (.invokespecial i3, 3)) (hd9 : decode cc (pc + 9) = .ok (.athrow, 1))
    (hR : 6 ≤ R.frames) (hRl : (st.map fun v => v.category).sum + 82 ≤ R.locals) (hcells : u.1 + 1 ≤ R.cells) (hslots : u.2 + 6 ≤ R.slots) (hm1 : u.1 + 1 ≤ mc) (hm2 : u.2 + 6 ≤ ms) (ho : o = .inr X) (hw : ws = w2) :
    kc_W p l e R s m args below meth c D cl (va_A w s.heap.size) nL (vx_MQ below (kc_QX o D cl w w2 s.heap.size) (kc_XX o D cl w w2 s.heap.size) args s mc ms (va_A w s.heap.size)) pc lv st ws u := by
  subst hw
  intro H locs ls hP hD hS hv
  obtain ⟨hx, hb, hml, hown, hts, hK, hA⟩ := h
  obtain ⟨sa, hsa⟩ := hT.2.2.2.1 _ hsl
  refine vx_throwS hx hb hl (names := ["java/lang/RuntimeException", "java/lang/Exception"]) (A := va_A w s.heap.size) hown hX.1 (by decide +kernel) (hts _ hX.2.1) (hts _ hX.2.2.1) hsa (fun z hz => ?_) hX.2.2.2.2 hT.1 hT.2.1 hS (hv.1.trans hml.symm) hd0 hd3 hd4 hd6 hd9 (fun x hx => (hnh x hx).elim) hR hRl hcells hslots hlk (fun t hvm hz hk => ?_) hS.2.2 hm1 hm2
  · rcases hX.2.2.2.1 z hz with q | q
    · exact hts z q
    · exact fw_to (State.WarmedH.refl s) q (hT.2.2.1 z q)
  · exact ⟨ho, hP.kept (fun k q hq => hk _ ((hP k q hq).lt)), hD, Nat.le_trans hS.1 hz, fun q h1 h2 => (hk q (Nat.lt_of_lt_of_le h1 hS.1)).trans (hS.2.1 q h1 h2)⟩
/-- an exception of the class E stands over the frame -/
def kc_V (p : Program) (l : Launch) (e : Env) (R : Room) (s : State) (m : MethodId) (args : Array Value) (below : List Frame) (meth : Method) (c : Code) (D : va_G) (cl : List vw_C) (A : Nat → Prop) (nL : Nat) (Q : State → Prop) (pc : Nat) (lv : List (Nat × Value)) (st : List Value) (ws : va_W) (u : Nat × Nat) (E : String) : Prop :=
  ∀ (H : Heap) (locs : List Loc) (ls : Array Slot) (q9 : Nat) (ce : Cell), va_P D cl ws H → va_D A ws → va_S A s.heap H locs → lv_has ls nL lv → H[q9]? = some ce → ce.vm = .none → s.vm.findClass E = some ce.cls → vx_W p l e R s m args below meth c H locs u.1 u.2 Q (F0 m pc ls st) q9
theorem kr_catch (h : kc_C p s m args c cc nL own D cl tys A) (hT : kc_T A s) {E : String} {hh : List (Nat × Nat × Nat × Nat)} (htab : c.exceptionTable.toList = tableOf hh) (pre : List (Nat × Nat × Nat × Nat × String)) {x : Nat × Nat × Nat × Nat} {suf : List (Nat × Nat × Nat × Nat)} (hsp : hh = pre.map (fun z => (z.1, z.2.1, z.2.2.1, z.2.2.2.1)) ++ x :: suf)
    (hpass : ∀ z ∈ pre, z.2.2.2.1 ≠ 0 ∧ Cond.classLink own z.2.2.2.1 z.2.2.2.2 ∈ tw ∧ (E, z.2.2.2.2) ∈ kc_nl) (hx : covers ⟨x.1, x.2.1, x.2.2.1, x.2.2.2⟩ pc = true) (h0 : x.2.2.2 ≠ 0) (hlink : Cond.classLink own x.2.2.2 E ∈ tw) (hcast : Cond.castable E E ∈ fw)
    (kk : ∀ a : Nat, kc_W p l e R s m args below meth c D cl A nL Q x.2.2.1 lv [.ref a] ws u) : kc_V p l e R s m args below meth c D cl A nL Q pc lv st ws u E := by
  intro H locs ls q9 ce hP hD hS hv hc hvm hcl
  obtain ⟨hx', hb, hml, hown, hts, hK, hA⟩ := h
  refine vx_catch hown (tableOf (pre.map (fun z => (z.1, z.2.1, z.2.2.1, z.2.2.2.1)))) ⟨x.1, x.2.1, x.2.2.1, x.2.2.2⟩ (tableOf suf) (by rw [htab, hsp]; simp [tableOf]) (fun z hz => ?_) hx h0 (hts _ hlink) (fw_to (State.WarmedH.refl s) hcast (hT.2.2.1 _ hcast)) hc hvm hcl (kk q9 H locs ls hP hD hS hv)
  simp only [tableOf, List.map_map, List.mem_map] at hz
  obtain ⟨y, hy, rfl⟩ := hz
  obtain ⟨h1, h2, h3⟩ := hpass y hy
  exact Or.inr ⟨h1, y.2.2.2.2, hts _ h2, hT.2.2.2.2 _ h3⟩
/-- a call, under a handler, of a method that may throw -/
theorem kr_try (h : kc_C p s m args c cc nL own D cl tys A) (hr : ∀ (H : Heap) (locs : List Loc) (ls : Array Slot), va_P D cl ws H → va_D A ws → va_S A s.heap H locs → lv_has ls nL lv → ∃ a : Array Value, vx_Run p l e R s m args below meth c H locs u.1 u.2 mc ms (F0 m pc ls st0) st (kc_QX o D cl w w2 H.size a) (kc_XX o D cl w w2 H.size) (va_A w H.size)) (isC isR pm : List Nat) (hC : isC.map (fun i => ws[i]?) = w.map some) (hRr : isR.map (fun i => ws[i]?) = wr.map some) (hn : va_nd isR = true) (hdis : ∀ i ∈ isR, i ∉ isC)
    (hpm : pm.map (fun i => (wr ++ w2)[i]?) = ws'.map some) (hpn : va_nd pm = true)
    (kk : ∀ r : Int32, o = .inl r → kc_W p l e R s m args below meth c D cl A nL Q (pc + 3) lv (.int r :: st) ws' (u.1 + mc, u.2 + ms))
    (kx : ∀ E : String, o = .inr E → kc_V p l e R s m args below meth c D cl A nL Q pc lv st ws' (u.1 + mc, u.2 + ms) E) : kc_W p l e R s m args below meth c D cl A nL Q pc lv st0 ws u := by
  intro H locs ls hP hD hS hv T hT X
  obtain ⟨a, hrun⟩ := hr H locs ls hP hD hS hv
  have hF := va_free (wc := w) hD hS h.2.2.2.2.2.2 isC hC
  rcases hrun T hT X with ⟨v, st₀, t, T', L, h0, X', hL, e1, e2, ⟨r, ho, hv', hP1, hD1, hz, hk⟩, stp⟩ | ⟨q9, st₀, t, T', L, E, ce, h0, X', hL, e1, e2, ⟨ho, hP1, hD1, hz, hk⟩, hce, hcv, hcl, stp⟩
  · cases hv'
    rw [h0] at hz hk
    obtain ⟨hP2, hD2⟩ := va_join (wr := wr) (w1 := w2) hP hD isC isR hC hRr hn hdis hk hF hP1 hD1
    obtain ⟨t2, a1, b1⟩ := kk r ho t.heap (locs ++ L) ls (hP2.sub pm (kc_fm hpm)) (hD2.sub pm hpn hpm) (kc_after hS hF hz hk hL) hv T' e1 X'
    exact ⟨t2, stp t2 a1, b1⟩
  · rw [h0] at hz hk
    obtain ⟨hP2, hD2⟩ := va_join (wr := wr) (w1 := w2) hP hD isC isR hC hRr hn hdis hk hF hP1 hD1
    obtain ⟨t2, a1, b1⟩ := kx E ho t.heap (locs ++ L) ls q9 ce (hP2.sub pm (kc_fm hpm)) (hD2.sub pm hpn hpm) (kc_after hS hF hz hk hL) hv hce hcv hcl T' e1 X'
    exact ⟨t2, stp.trans a1, b1⟩
/-- the run of an instance method that may throw -/
theorem kc_rX (h : kc_C p s m args c cc nL own D cl tys A) (hT : kc_T A s) {y : MethodName} {bytes : ByteArray} {maxL : Nat} {ret : Option FieldType} {fr lo idx n : Nat} {C : String} {b : Nat} {av : List Value} (hM : kc_MX l y bytes maxL ret fr lo mc ms (.ref b :: av) D cl tys w o w2) (hml : Cond.methodLink own idx y ∈ tw) (hy : kc_yv y bytes maxL ret C n) (hdg : decode cc pc = .ok (.invokevirtual idx, 3)) (hn : av.length = n) (hst : st0 = av.reverse ++ .ref b :: st) (hR : fr + 1 ≤ R.frames ∧ 8 + (maxL + 11) + lo ≤ R.locals) (hf : u.1 + mc ≤ R.cells ∧ u.2 + ms ≤ R.slots) (hcat : (st.map fun v => v.category).sum ≤ 8) (isC : List Nat) (hC : isC.map (fun i => ws[i]?) = w.map some) (hCn : va_nd isC = true) (q0 : Nat) {ci : Nat} {q : vw_C} {fs : List Value} (hc : cl[ci]? = some q) (hcC : q.1 = C) (he : ws[q0]? = some (b, .inr (ci, fs))) :
    ∀ (H : Heap) (locs : List Loc) (ls : Array Slot), va_P D cl ws H → va_D A ws → va_S A s.heap H locs → lv_has ls nL lv → ∃ a : Array Value, vx_Run p l e R s m args below meth c H locs u.1 u.2 mc ms (F0 m pc ls st0) st (kc_QX o D cl w w2 H.size a) (kc_XX o D cl w w2 H.size) (va_A w H.size) := by
  intro H locs ls hP hD hS hv
  subst hcC
  have hF := va_free (wc := w) hD hS h.2.2.2.2.2.2 isC hC
  refine ⟨(.ref b :: av).toArray, vx_runV (As := av) (rest := st) ⟨h.1, h.2.1, h.2.2.1, h.2.2.2.1, h.2.2.2.2.1⟩ (hM H.size) (cwV n h.2.2.2.2.1 (fun x hx => tw_good x ?_) rfl rfl rfl hy.2.2.2.2 hR) ⟨kc_blindX, va_recv h.2.2.2.2.2.1 hP hc he, fun U hU hW => ⟨rfl, by rw [hU], by rw [hU]; exact hP.sub isC (kc_fm hC), va_K.moved hW.alike h.2.2.2.2.2.1, (hD.sub isC hCn hC).weaken (fun _ _ _ _ => trivial), hT.to hW hF (fun a h1 h2 => by rw [hU]; exact hS.2.1 a h1 h2)⟩⟩ rfl hn hv.1 hst (lv_room hcat) hdg hf⟩
  simp only [wsV, List.mem_append, List.mem_cons, List.not_mem_nil, or_false] at hx
  rcases hx with (rfl | rfl | rfl | rfl) | rfl | hx
  · exact hml
  · exact hy.1
  · exact hy.2.1
  · exact hy.2.2.1
  · exact hy.2.2.2.1
  · exact hx
/-- the run of a static method with handlers -/
theorem kc_rW (h : kc_C p s m args c cc nL own D cl tys A) (hT : kc_T A s) {y : MethodName} {bytes : ByteArray} {maxL : Nat} {ret : Option FieldType} {hh : List (Nat × Nat × Nat × Nat)} {fr lo idx n : Nat} {av : List Value} {r : Option Value} (hM : kc_MW l y bytes maxL ret hh fr lo mc ms av D cl tys w r w2) (hml : Cond.methodLink own idx y ∈ tw) (hst0 : Cond.static y ∈ tw) (hin : Cond.initialized y.cls ∈ tw) (hcd : Cond.codeWith y bytes maxL ret hh ∈ tw) (hy : y.cls ≠ "java/lang/invoke/MethodHandle" ∧ y.cls ≠ "java/lang/invoke/VarHandle" ∧ (parseMethodDescriptor y.desc).map (fun d => d.parameters.length) = some n) (hdg : decode cc pc = .ok (.invokestatic idx, 3)) (hn : av.length = n) (hst : st0 = av.reverse ++ st) (hR : fr + 1 ≤ R.frames ∧ 8 + (maxL + 11) + lo ≤ R.locals) (hf : u.1 + mc ≤ R.cells ∧ u.2 + ms ≤ R.slots) (hcat : (st.map fun v => v.category).sum ≤ 8) (isC : List Nat) (hC : isC.map (fun i => ws[i]?) = w.map some) (hCn : va_nd isC = true) (H : Heap) (locs : List Loc) (ls : Array Slot) (hP : va_P D cl ws H) (hD : va_D A ws) (hS : va_S A s.heap H locs) (hv : lv_has ls nL lv) :
    ∃ a : Array Value, va_Run p l e R s m args below meth c H locs u.1 u.2 mc ms (F0 m pc ls st0) st (kc_Post r D cl w w2 H.size a) (va_A w H.size) := by
  have hF := va_free (wc := w) hD hS h.2.2.2.2.2.2 isC hC
  refine ⟨av.toArray, vx_runSW (As := av) (rest := st) ⟨h.1, h.2.1, h.2.2.1, h.2.2.2.1, h.2.2.2.2.1⟩ (hM H.size) (vx_cwSW n h.2.2.2.2.1 (fun x hx => tw_good x ?_) rfl rfl rfl hy hR) ⟨kc_blindX, fun U hU hW => ⟨rfl, by rw [hU], by rw [hU]; exact hP.sub isC (kc_fm hC), va_K.moved hW.alike h.2.2.2.2.2.1, (hD.sub isC hCn hC).weaken (fun _ _ _ _ => trivial), hT.to hW hF (fun a h1 h2 => by rw [hU]; exact hS.2.1 a h1 h2)⟩⟩ rfl hn hv.1 hst (lv_room hcat) hdg hf⟩
  simp only [va_wsS, List.mem_append, List.mem_cons, List.not_mem_nil, or_false] at hx
  rcases hx with (rfl | rfl | rfl) | rfl | hx
  · exact hml
  · exact hst0
  · exact hin
  · exact hcd
  · exact hx
end KY
