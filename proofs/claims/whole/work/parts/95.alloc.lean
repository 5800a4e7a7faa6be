/-! making cells, and constructors -/
section KA
variable {p : Program} {l : Launch} {e : Env} {R : Room} {s : State} {m : MethodId} {args : Array Value} {below : List Frame} {meth : Method} {c : Code} {Q : State → Prop}
variable {cc : ByteArray} {nL : Nat} {own : String} {D : va_G} {cl : List vw_C} {tys : List (ClassId × FieldType)} {A : Nat → Prop}
variable {pc : Nat} {lv lv' : List (Nat × Value)} {st st0 : List Value} {ws ws' w wr : va_W} {u : Nat × Nat} {mc ms : Nat}
theorem kr_newa (h : kc_C p s m args c cc nL own D cl tys A) (t0 : Nat) {atype : ArrayType} {ty : FieldType} {cA0 : ClassId} (harr : Cond.arrayClass (newarray.typeOf atype) ∈ tw) (hty : newarray.typeOf atype = ty) (ht : tys[t0]? = some (cA0, ty)) (hpr : ∀ (U : State) (c : ClassId), va_RA U c ty → U.vm.findClass ("[" ++ ty.toString) = some c) {n : Int32} {N' : Nat} {a0 : vp_A} (ha : ∀ cA : ClassId, vp_cell cA a0 = arrV cA N' (fun _ => defaultValue ty)) (hn : ¬ n < 0) (hN : n.toNatClampNeg = N') (hbytes : N' * componentBytes ty ≤ 536870912) (hcells : u.1 + 1 ≤ R.cells) (hslots : u.2 + N' ≤ R.slots) (hdg : decode cc pc = .ok (.newarray atype, 2))
    (kk : ∀ q : Nat, kc_W p l e R s m args below meth c D cl A nL Q (pc + 2) lv (.ref q :: st) (ws ++ [(q, .inl (cA0, a0))]) (u.1 + 1, u.2 + N')) : kc_W p l e R s m args below meth c D cl A nL Q pc lv (.int n :: st) ws u :=
  fun H locs ls hP hD hS hv => va_newa h.1 h.2.1 (h.2.2.2.2.1 _ harr) hty h.2.2.2.2.2.1 hP hD hS h.2.2.2.2.2.2 ha hn hN hbytes hcells hslots hdg (fun q cA H1 hK1 hP1 hD1 hS1 => by
    have e1 := (hK1.2 tys.length (cA, ty) (by simp)).2
    have e2 := (h.2.2.2.2.2.1.2 t0 (cA0, ty) ht).2
    have e3 : cA = cA0 := Option.some.inj ((hpr s cA e1).symm.trans (hpr s cA0 e2))
    subst e3
    exact kk q H1 locs ls hP1 hD1 hS1 hv)
theorem kr_putF (h : kc_C p s m args c cc nL own D cl tys A) {C : String} {T : u_T} {N ci index : Nat} {ty : Nat → FieldType} (hF : kc_F C T N ty) (q0 k : Nat) {a : Nat} {fs : List Value} {v : Value} (hin2 : meth.name = "<init>") (hdg : decode cc pc = .ok (.putfield index, 3)) (hlink : Cond.fieldLink own index C (T k).2.1 (T k).2.2.1 ∈ tw) (he : ws[q0]? = some (a, .inr (ci, fs))) (hc : cl[ci]? = some (C, T, N)) (hk : k < N) (hT : (T k).1 = C) (hdecl : (T k).1 = own) (hfin : (T k).2.2.2 = true) (hn : narrow (ty k) v = v) (hfit : fits (ty k) v = true) (hlen : k < fs.length) (hw : ws.set q0 (a, .inr (ci, fs.set k v)) = ws') (kk : kc_W p l e R s m args below meth c D cl A nL Q (pc + 3) lv st ws' u) : kc_W p l e R s m args below meth c D cl A nL Q pc lv (v :: .ref a :: st) ws u :=
  fun H locs ls hP hD hS hv => va_putF (D := D) h.1 h.2.1 h.2.2.2.2.1 hF.1 ty hF.2.1 hF.2.2 h.2.2.2.1 h.2.2.2.2.2.1 hP hD hS q0 he hc k hk (h.2.2.2.2.1 _ hlink) (fun x hx => by rw [hT] at hx; exact hx) hfin hin2 hdecl (hF.2.1 k hk) hn hfit hlen hdg (fun H1 locs1 hP1 hD1 hS1 => kk H1 locs1 ls (hw ▸ hP1) (hw ▸ hD1) hS1 hv)
theorem kr_new (h : kc_C p s m args c cc nL own D cl tys A) {C : String} {T : u_T} {N ci index : Nat} {ty : Nat → FieldType} (hF : kc_F C T N ty) (hcl : Cond.classLink own index C ∈ tw) (hinst : Cond.instantiable C N ∈ tw) (hini : Cond.initialized C ∈ tw) (hc : cl[ci]? = some (C, T, N)) {fs : List Value} (hfs : ∀ j, j < N → defaultValue (ty j) = vp_V fs j) (hcells : u.1 + 1 ≤ R.cells) (hslots : u.2 + N ≤ R.slots) (hdg : decode cc pc = .ok (.new index, 3))
    (kk : ∀ q : Nat, kc_W p l e R s m args below meth c D cl A nL Q (pc + 3) lv (.ref q :: st) (ws ++ [(q, .inr (ci, fs))]) (u.1 + 1, u.2 + N)) : kc_W p l e R s m args below meth c D cl A nL Q pc lv st ws u :=
  fun H locs ls hP hD hS hv => va_new h.1 h.2.1 h.2.2.2.2.1 hF.1 ty hF.2.1 h.2.2.2.1 (h.2.2.2.2.1 _ hcl) (h.2.2.2.2.1 _ hinst) (h.2.2.2.2.1 _ hini) h.2.2.2.2.2.1 hP hD hS h.2.2.2.2.2.2 hc hfs hcells hslots hdg (fun q H1 hP1 hD1 hS1 => kk q H1 locs ls hP1 hD1 hS1 hv)
theorem kr_objInit (h : kc_C p s m args c cc nL own D cl tys A) {idx : Nat} (hlink : Cond.methodLink own idx Lib.objectInit ∈ tw) (hinst : Cond.instanceMethod Lib.objectInit ∈ tw) (hcode : Cond.code Lib.objectInit ⟨#[0xb1]⟩ 1 none ∈ tw) {a : Nat} (hdg : decode cc pc = .ok (.invokespecial idx, 3)) (hf : 1 ≤ R.frames) (hlo : (st.map fun v => v.category).sum + 12 ≤ R.locals)
    (kk : kc_W p l e R s m args below meth c D cl A nL Q (pc + 3) lv st ws u) : kc_W p l e R s m args below meth c D cl A nL Q pc lv (.ref a :: st) ws u :=
  fun H locs ls hP hD hS hv => W.objInit h.1 h.2.1 h.2.2.2.1 (h.2.2.2.2.1 _ hlink) (h.2.2.2.2.1 _ hinst) (h.2.2.2.2.1 _ hcode) rfl (hv.1.trans h.2.2.1.symm) rfl hdg hf (by show 2 * 0 + (st.map fun v => v.category).sum + 12 ≤ R.locals; omega) (kk H locs ls hP hD hS hv)
/-- a constructor's end: some world of which P holds -/
def kc_PostE (P : va_W → Prop) (D : va_G) (cl : List vw_C) (w : va_W) (sz : Nat) : Array Value → State → Outcome → State → Prop := fun _ st o t => o = .returned none ∧ ∃ w2, P w2 ∧ va_P D cl w2 t.heap ∧ va_D (va_A w sz) w2 ∧ va_F (va_A w sz) st t
def kc_ME (l : Launch) (y : MethodName) (bytes : ByteArray) (maxL : Nat) (fr lo mc ms : Nat) (av : List Value) (D : va_G) (cl : List vw_C) (tys : List (ClassId × FieldType)) (w : va_W) (P : va_W → Prop) : Prop :=
  ∀ sz : Nat, Met l y (Cond.code y bytes maxL none :: tw) { frames := fr, cells := mc, slots := ms, locals := lo } (kc_Pre av D cl tys w sz) (kc_PostE P D cl w sz) mc ms (va_A w sz)
theorem kc_startE {y : MethodName} {bytes : ByteArray} {maxL : Nat} {fr lo : Nat} {av : List Value} {P : va_W → Prop} (own : String) (hy : plainName y.cls = true) (hcls : y.cls = own) (hlen : (lg_sl av).length ≤ maxL)
    (body : ∀ (p : Program) (e : Env) (s : State) (m : MethodId) (below : List Frame) (meth : Method) (c : Code), kc_C p s m av.toArray c bytes maxL own D cl tys (va_A w s.heap.size) → meth.sig.returnType = none → meth.locks = false → meth.name = y.name →
      kc_W p l e { frames := fr, cells := mc, slots := ms, locals := lo } s m av.toArray below meth c D cl (va_A w s.heap.size) maxL (MQ below (kc_PostE P D cl w s.heap.size) av.toArray s mc ms (va_A w s.heap.size)) 0 (lv_args 0 av) [] w (0, 0)) :
    kc_ME l y bytes maxL fr lo mc ms av D cl tys w P := by
  intro sz
  refine Met.ofW (cc := bytes) (maxL := maxL) (ret := none) hy rfl ?_
  intro p e s m args below meth c s₁ B hml hv
  obtain ⟨rfl, hsz, hP, hK, hD0⟩ := hv
  subst hsz
  have hts := atoms_spec (ws := Cond.code y bytes maxL none :: tw) B.pre
  have hown : s.vm.findClass own = some m.cls := by rw [← hcls]; exact findClass_of_methodNamed B.named
  have hnm : meth.name = y.name := (name_of_methodNamed B.named B.method).1
  have hl := lv_entry av (n := maxL) hlen
  rw [lg_entry_eq]
  exact body p e s m below meth c ⟨B.exec, B.bytes, hml, hown, fun w hw => hts w (List.mem_cons_of_mem _ hw), hK, fun q hq => Or.inr hq⟩ B.returns B.notSynchronized hnm s.heap [] _ hP hD0.self va_S.rf hl
theorem kr_vretE {P : va_W → Prop} (h : kc_C p s m args c cc nL own D cl tys (va_A w s.heap.size)) (hr : meth.sig.returnType = none) (hlk : meth.locks = false) (hdg : decode cc pc = .ok (.return_, 1)) (hw : P ws) :
    kc_W p l e R s m args below meth c D cl (va_A w s.heap.size) nL (MQ below (kc_PostE P D cl w s.heap.size) args s mc ms (va_A w s.heap.size)) pc lv [] ws (mc, ms) :=
  fun H locs ls hP hD hS hv => W.vret h.1 h.2.1 hr (fun t ht hW => ⟨rfl, ws, hw, by rw [ht]; exact hP, hD, hS.F ht⟩) hS.2.2 hdg hlk
/-- a constructor's run -/
theorem kc_rI (h : kc_C p s m args c cc nL own D cl tys A) {y : MethodName} {bytes : ByteArray} {maxL : Nat} {fr lo idx n : Nat} {b : Nat} {av : List Value} {P : va_W → Prop} (hM : kc_ME l y bytes maxL fr lo mc ms (.ref b :: av) D cl tys w P) (hml : Cond.methodLink own idx y ∈ tw) (hin : Cond.instanceMethod y ∈ tw) (hini : Cond.initialized y.cls ∈ tw) (hcd : Cond.code y bytes maxL none ∈ tw) (hy1 : y.name = "<init>") (hd : y.cls ≠ "java/lang/invoke/MethodHandle" ∧ y.cls ≠ "java/lang/invoke/VarHandle" ∧ (parseMethodDescriptor y.desc).map (fun d => d.parameters.length) = some n) (hdg : decode cc pc = .ok (.invokespecial idx, 3)) (hn : av.length = n) (hst : st0 = av.reverse ++ .ref b :: st) (hR : fr + 1 ≤ R.frames ∧ 8 + (maxL + 11) + lo ≤ R.locals) (hf : u.1 + mc ≤ R.cells ∧ u.2 + ms ≤ R.slots) (hcat : (st.map fun v => v.category).sum ≤ 8) (isC : List Nat) (hC : isC.map (fun i => ws[i]?) = w.map some) (hCn : va_nd isC = true)
    (isR : List Nat) (hRr : isR.map (fun i => ws[i]?) = wr.map some) (hnn : va_nd isR = true) (hdis : ∀ i ∈ isR, i ∉ isC)
    (kk : ∀ w2, P w2 → kc_W p l e R s m args below meth c D cl A nL Q (pc + 3) lv st (wr ++ w2) (u.1 + mc, u.2 + ms)) : kc_W p l e R s m args below meth c D cl A nL Q pc lv st0 ws u := by
  intro H locs ls hP hD hS hv T hT X
  have hF := va_free (wc := w) hD hS h.2.2.2.2.2.2 isC hC
  have hrun := va_runI (R := R) (e := e) (below := below) (meth := meth) (H := H) (locs := locs) (cells := u.1) (slots := u.2) (g := F0 m pc ls st0) (As := av) (rest := st) ⟨h.1, h.2.1, h.2.2.1, h.2.2.2.1, h.2.2.2.2.1⟩ (hM H.size) (cwI n h.2.2.2.2.1 (fun x hx => tw_good x (by rcases List.mem_cons.mp hx with q | q; rw [q]; exact hcd; exact q)) rfl rfl rfl (h.2.2.2.2.1 _ hini) (h.2.2.2.2.1 _ hml) (h.2.2.2.2.1 _ hin) hy1 hd hR) ⟨kc_blind, fun U hU hW => ⟨rfl, by rw [hU], by rw [hU]; exact hP.sub isC (kc_fm hC), va_K.moved hW.alike h.2.2.2.2.2.1, (hD.sub isC hCn hC).weaken (fun _ _ _ _ => trivial)⟩⟩ rfl hn hv.1 hst (lv_room hcat) hdg hf
  obtain ⟨v, st₀, t, T', L, h0, X', hL, e1, e2, ⟨hv', w2, hPw, hP1, hD1, hz, hk⟩, stp⟩ := hrun T hT X
  cases hv'
  rw [h0] at hz hk
  obtain ⟨hP2, hD2⟩ := va_join (wr := wr) (w1 := w2) hP hD isC isR hC hRr hnn hdis hk hF hP1 hD1
  obtain ⟨t2, a1, b1⟩ := kk w2 hPw t.heap (locs ++ L) ls hP2 hD2 (kc_after hS hF hz hk hL) hv T' e1 X'
  exact ⟨t2, stp t2 a1, b1⟩
end KA
theorem aw_I : Cond.arrayClass (newarray.typeOf .int) ∈ tw := tw_l (by decide +kernel) (by decide +kernel)
theorem aw_Z : Cond.arrayClass (newarray.typeOf .boolean) ∈ tw := tw_l (by decide +kernel) (by decide +kernel)
theorem aw_J : Cond.arrayClass (newarray.typeOf .long) ∈ tw := tw_l (by decide +kernel) (by decide +kernel)
theorem ow_im : Cond.instanceMethod Lib.objectInit ∈ tw := tw_l (by decide +kernel) (by decide +kernel)
theorem ow_cd : Cond.code Lib.objectInit ⟨#[0xb1]⟩ 1 none ∈ tw := tw_l (by decide +kernel) (by decide +kernel)
/-- the states at the start -/
def xX0 : xSt := (fun k => match k with
  | 8 => fun j => if j < 96 then 5 else 0
  | _ => fun _ => 0, fun k => match k with
  | 5 => -1
  | _ => 0)
def yY0 : xSt := (fun k => match k with
  | 8 => fun j => if j < 96 then 5 else 0
  | _ => fun _ => 0, fun k => match k with
  | 1 => -1
  | _ => 0)
theorem wf_0 : xWF xX0 := by
  refine ⟨0, fun q => q + 1, by decide, rfl, Or.inl rfl, Or.inl rfl, fun i => ?_, fun i _ => ⟨rfl, rfl⟩, fun q => Nat.lt_succ_self q, fun i hi => absurd hi (Nat.not_lt_zero _)⟩
  show ∃ e : Nat, e < 6 ∧ (if i < 96 then (5 : Int32) else 0) = nI e
  split
  · exact ⟨5, by decide, rfl⟩
  · exact ⟨0, by decide, rfl⟩
theorem rel_0 : yRel xX0 yY0 := by
  refine ⟨⟨fun k hk => ?_, fun k hk hk6 => ?_, fun k _ => rfl⟩, rfl⟩
  · match k, hk with
    | 0, _ | 1, _ | 2, _ | 3, _ | 4, _ | 5, _ | 6, _ | 7, _ | 8, _ | 9, _ => rfl
  · match k, hk with
    | 0, _ | 1, _ | 2, _ | 3, _ | 4, _ | 5, _ | 6, _ | 7, _ => rfl
