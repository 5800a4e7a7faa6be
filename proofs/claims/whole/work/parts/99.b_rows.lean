/-! the law: its rows -/
def R_law : String := "PolicyMonitorLaw"
def lw_P (b : Addr) (xs : List Int32) (args : Array Value) (s : State) : Prop := args = #[.ref b] ∧ s.IntsAt b xs ∧ xs.length ≤ 2560 ∧ (Jvm.Cond.and given_1 narrow_1).before args s = true
def lw_Q (_ : Array Value) (s : State) (o : Outcome) (t : State) : Prop := o = .returned (some (.int 1)) ∧ Framed s o t [] 601024 7293034
def lw_Z (below : List Frame) (a : Array Value) (s : State) : State → Prop := fun t => ∃ o, t.status = .running ∧ Ended t below o ∧ lw_Q a s o t
/-- the law's own end, with 1 on the stack, nothing written that was there before, its room as the claim has it -/
theorem lw_ret {p : Program} {l : Launch} {e : Env} {s : State} {m : MethodId} {below : List Frame} {meth : Method} {c : Code} {b : Nat} (hx : p.tables.exec = Jvm.exec) (hb : c.code = code) (hr : meth.sig.returnType = ret) (hlocks : meth.locks = false) {pc : Nat} {H : Heap} {ls : Array Slot} (hdg : decode code pc = .ok (.ireturn, 1)) : W p l e room_1 s m #[Value.ref b] below meth c H [] 601024 7293034 (lw_Z below #[Value.ref b] s) (F0 m pc ls [.int 1]) := by
  intro T hT X
  obtain ⟨fs, hret, hrun, hended, hW, hframe⟩ := X.leave (v := some (.int 1)) (hlocks := hlocks) (fun h => by rw [hr] at h; cases h)
  have hmeth' : T.vm.method? m = some meth := X.method'
  refine ⟨T.setFrames fs, ?_, .returned (some (.int 1)), hrun, hended, rfl, ⟨_, rfl⟩, hW, hframe⟩
  jvm_step X.here [X.here.top, hx, hb, hdg, hmeth', hr, ret, narrow_b1]
  (try refine ⟨rfl, ?_⟩); (try refine ⟨rfl, ?_⟩)
  first | (intro acts; rw [hret _ acts rfl rfl rfl]) | rw [hret _ _ rfl rfl rfl]
  exact Steps.refl _
/-- what holds at the law's entry -/
def lw_At (p : Program) (s : State) (m : MethodId) (meth : Method) (c : Code) (b L : Nat) (xs : Nat → Int32) : Prop :=
  p.tables.exec = Jvm.exec ∧ c.code = code ∧ meth.sig.returnType = ret ∧ c.maxLocals = 7 ∧ s.vm.findClass R_law = some m.cls ∧ (∀ w ∈ lw_tbl, w.before #[Value.ref b] s = true) ∧ va_X b L xs s s.heap ∧ b < s.heap.size ∧ meth.locks = false ∧ (Jvm.Cond.and given_1 narrow_1).before #[Value.ref b] s = true
section KL
variable {p : Program} {l : Launch} {e : Env} {R : Room} {s : State} {m : MethodId} {args : Array Value} {below : List Frame} {meth : Method} {c : Code} {Q : State → Prop}
variable {cc : ByteArray} {nL : Nat} {own : String} {D : va_G} {cl : List vw_C} {tys : List (ClassId × FieldType)} {A : Nat → Prop}
variable {pc : Nat} {lv lv' : List (Nat × Value)} {st st0 : List Value} {ws ws' w w2 wr : va_W} {u : Nat × Nat} {mc ms : Nat}
theorem kr_lcmp (h : kc_C p s m args c cc nL own D cl tys A) {x y : Int64} (hdg : decode cc pc = .ok (.lcmp, 1)) (kk : ∀ z : Int32, z = lg_cmp x y → kc_W p l e R s m args below meth c D cl A nL Q (pc + 1) lv (.int z :: st) ws u) : kc_W p l e R s m args below meth c D cl A nL Q pc lv (.long y :: .long x :: st) ws u :=
  fun H locs ls hP hD hS hv => W.lcmp h.1 h.2.1 hdg (kk _ rfl H locs ls hP hD hS hv)
theorem kr_ws (hw : ws = ws') (kk : kc_W p l e R s m args below meth c D cl A nL Q pc lv st ws' u) : kc_W p l e R s m args below meth c D cl A nL Q pc lv st ws u := hw ▸ kk
theorem kr_iP (h : kc_C p s m args c cc nL own D cl tys A) {z : Int32} (hr : kc_R p l e R s m args below meth c D cl A nL pc lv st0 st ws u mc ms w (some (.int z)) w2) (isC isR pm : List Nat) (hC : isC.map (fun i => ws[i]?) = w.map some) (hRr : isR.map (fun i => ws[i]?) = wr.map some) (hn : va_nd isR = true) (hdis : ∀ i ∈ isR, i ∉ isC)
    (hpm : pm.map (fun i => (wr ++ w2)[i]?) = ws'.map some) (hpn : va_nd pm = true) (kk : ∀ v : Int32, v = z → kc_W p l e R s m args below meth c D cl A nL Q (pc + 3) lv (.int v :: st) ws' (u.1 + mc, u.2 + ms)) : kc_W p l e R s m args below meth c D cl A nL Q pc lv st0 ws u := kr_runP h hr isC isR pm hC hRr hn hdis hpm hpn (kk _ rfl)
/-- a call of a static method with handlers -/
theorem kr_iPW (h : kc_C p s m args c cc nL own D cl tys A) {z : Int32} (hr : ∀ (H : Heap) (locs : List Loc) (ls : Array Slot), va_P D cl ws H → va_D A ws → va_S A s.heap H locs → lv_has ls nL lv → ∃ a : Array Value, va_Run p l e R s m args below meth c H locs u.1 u.2 mc ms (F0 m pc ls st0) st (kc_Post (some (.int z)) D cl w w2 H.size a) (va_A w H.size)) (isC isR pm : List Nat) (hC : isC.map (fun i => ws[i]?) = w.map some) (hRr : isR.map (fun i => ws[i]?) = wr.map some) (hn : va_nd isR = true) (hdis : ∀ i ∈ isR, i ∉ isC)
    (hpm : pm.map (fun i => (wr ++ w2)[i]?) = ws'.map some) (hpn : va_nd pm = true) (kk : ∀ v : Int32, v = z → kc_W p l e R s m args below meth c D cl A nL Q (pc + 3) lv (.int v :: st) ws' (u.1 + mc, u.2 + ms)) : kc_W p l e R s m args below meth c D cl A nL Q pc lv st0 ws u := by
  intro H locs ls hP hD hS hv T hT X
  obtain ⟨a, hrun⟩ := hr H locs ls hP hD hS hv
  obtain ⟨v, st₀, t, T', L, h0, X', hL, e1, e2, ⟨hv', hP1, hD1, hz, hk⟩, stp⟩ := hrun T hT X
  cases hv'
  rw [h0] at hz hk
  have hF := va_free (wc := w) hD hS h.2.2.2.2.2.2 isC hC
  obtain ⟨hP2, hD2⟩ := va_join (wr := wr) (w1 := w2) hP hD isC isR hC hRr hn hdis hk hF hP1 hD1
  obtain ⟨t2, a1, b1⟩ := kk z rfl t.heap (locs ++ L) ls (hP2.sub pm (kc_fm hpm)) (hD2.sub pm hpn hpm) (kc_after hS hF hz hk hL) hv T' e1 X'
  exact ⟨t2, stp t2 a1, b1⟩
/-- the law's end -/
theorem kr_lret {b : Nat} (h : kc_C p s m #[Value.ref b] c code nL own D cl tys A) (hr : meth.sig.returnType = ret) (hlk : meth.locks = false) (hAs : ∀ q, A q → s.heap.size ≤ q) (hdg : decode code pc = .ok (.ireturn, 1)) : kc_W p l e room_1 s m #[Value.ref b] below meth c D cl A nL (lw_Z below #[Value.ref b] s) pc lv [.int 1] ws (601024, 7293034) :=
  fun H locs ls hP hD hS hv => va_forget (fun q hq => hAs _ (hS.2.2 q hq)) (lw_ret h.1 h.2.1 hr hlk hdg)
end KL
theorem oK_k {cd : String → Int32} {o : Int32 ⊕ String} {x : xSt} {r : Int32} (h : oK cd o x r) : x.2 6 = kO cd o := by
  cases o with
  | inl v => exact (h.1 v rfl).1
  | inr E => exact h.2 E rfl
theorem oK_f {cd : String → Int32} (hcd : ∀ E, ¬ cd E = 0) {o : Int32 ⊕ String} {x : xSt} {r : Int32} (h : oK cd o x r) (h0 : kO cd o = 0) (f : Nat → Int64) : fO o f 0 = r.toInt64 := by
  cases o with
  | inl v =>
    rw [(h.1 v rfl).2]
    show vp_updL f 0 v.toInt64 0 = _
    simp [vp_updL]
  | inr E => exact absurd h0 (hcd E)
theorem cd_1 : ∀ E : String, ¬ (fun _ => (1 : Int32)) E = 0 := fun _ => show ¬ (1 : Int32) = 0 by decide
theorem cd_P : ∀ E : String, ¬ cPol E = 0 := fun E => by
  unfold cPol
  repeat' split
  all_goals decide
theorem cd_A : ∀ E : String, ¬ cAct E = 0 := fun E => by
  unfold cAct
  repeat' split
  all_goals decide
theorem cd_D : ∀ E : String, ¬ cDet E = 0 := fun E => by
  unfold cDet
  repeat' split
  all_goals decide
theorem lg_cmp_0 {x y : Int64} (h : x = y) : lg_cmp x y = 0 := by
  subst h
  simp [lg_cmp]
theorem idx_in {t k L : Nat} (h : 5 * t + 5 ≤ L) (hL : L ≤ 2560) (hk : k < 5) {i v : Int32} (hi : i = nI (5 * t)) (hv : v = i + nI k) : vp_in v L := by
  rw [hv, hi, nI_add]
  exact vp_in_nI (by omega) (by omega)
theorem head_in {t L : Nat} (hL : L ≤ 2560) (ht : 5 * t ≤ 2565) {i v : Int32} (hi : i = nI (5 * t)) (hv : v = Int32.ofNat L - 5) (h : ¬ v < i) : 5 * t + 5 ≤ L := by
  have e1 : v.toInt = (L : Int) - 5 := by
    rw [hv]
    exact pk_sub_toInt (a := L) (b := 5) (by omega) (by decide)
  have e2 : i.toInt = ((5 * t : Nat) : Int) := by rw [hi]; exact nI_toInt (by omega)
  rw [Int32.lt_iff_toInt_lt, e1, e2] at h
  omega
