/-! the law's entry: what the words at the entry say of the machine -/
theorem str_of {own tx : String} {k : Nat} {A : Array Value} {U : State} (h : (Cond.stringRef own k tx).before A U = true) : ∃ sa : Nat, vk_R own k tx sa U := by
  have hcur : ∃ cur, U.vm.findClass own = some cur := by
    have h1 := h
    simp only [Cond.before, Cond.holds, Cond.value] at h1
    cases hc : U.vm.findClass own with
    | none => simp [hc] at h1
    | some cur => exact ⟨cur, rfl⟩
  obtain ⟨cur, hc⟩ := hcur
  obtain ⟨k', cf, i, a, -, -, -, -, -, hev⟩ := Cond.stringRef_spec hc h
  exact ⟨a, vk_R.of h hev⟩
theorem arr_of {ty : FieldType} {A : Array Value} {U : State} (hpr : ∀ c : ClassId, U.vm.findClass ("[" ++ ty.toString) = some c → va_RA U c ty) (hr : ∀ k, ty ≠ .object k) (h : (Cond.arrayClass ty).before A U = true) : ∃ cA : ClassId, ArrOfT U cA ty ∧ va_RA U cA ty := by
  obtain ⟨cA, kA, comp, h1, h2, h3⟩ := Cond.arrayClass_spec h
  exact ⟨cA, fun n z => ⟨fun k h => (by cases h), kA, h2, comp, h3⟩, hpr cA h1⟩
theorem st_sl : ∀ q ∈ kc_sl, Cond.stringRef "PolicyMonitor" q.1 q.2 ∈ lw_tbl := by decide +kernel
theorem st_nl : ∀ q ∈ kc_nl, Cond.not (.castable q.1 q.2) ∈ flatC (Jvm.Cond.and given_1 narrow_1) := by decide +kernel
theorem st_T {s : State} {b : Nat} (hts : ∀ w ∈ lw_tbl, w.before #[Value.ref b] s = true) (hgv : (Jvm.Cond.and given_1 narrow_1).before #[Value.ref b] s = true) : kc_T (fun z : Nat => s.heap.size ≤ z) s := by
  have hg := flat_of_before _ hgv
  refine ⟨vx_Zqof (args := #[Value.ref b]) (hts _ (by decide +kernel)) (hts _ (by decide +kernel)) (hg _ (by decide +kernel)) (fun a h => Nat.not_le.mpr h), vx_Zqof (args := #[Value.ref b]) (hts _ (by decide +kernel)) (hts _ (by decide +kernel)) (hg _ (by decide +kernel)) (fun a h => Nat.not_le.mpr h), fun w hw => fw_to (State.WarmedH.refl s) hw (hts w (List.mem_filter.mp hw).1), fun q hq => str_of (hts _ (st_sl q hq)), fun q hq => va_Nc.of (hg _ (st_nl q hq))⟩
/-- THE LAW, from its entry -/
theorem whole_start {p : Program} {e : Env} {s : State} {m : MethodId} {below : List Frame} {meth : Method} {c : Code} (l : Launch) (hst : l.stackTraces = false) {b L : Nat} {xs : Nat → Int32} (hL : L ≤ 2560) (C0 : lw_At p s m meth c b L xs) : W p l e room_1 s m #[Value.ref b] below meth c s.heap [] 0 0 (lw_Z below #[Value.ref b] s) (entryFrame m ([Value.ref b] : List Value).toArray 7) := by
  obtain ⟨hx, hb, hr, hml, hown, hts, hX, hbl, hlocks, hgv⟩ := id C0
  have hbA : ¬ (fun q : Nat => s.heap.size ≤ q) b := Nat.not_le.mpr hbl
  obtain ⟨c0, iS0, hKn0⟩ := u_known (C := RX0) (T := TX0) (N := 19) (n := 19) hts iX0 (hts (.instantiable RX0 19) (by decide +kernel))
  obtain ⟨c1, iS1, hKn1⟩ := u_known (C := RX1) (T := TX1) (N := 28) (n := 28) hts iX1 (hts (.instantiable RX1 28) (by decide +kernel))
  obtain ⟨cI, aI⟩ := arr_of (ty := .int) (fun _ h => h) (fun _ => by simp) (hts _ (by decide +kernel))
  obtain ⟨cZ, aZ⟩ := arr_of (ty := .boolean) (fun _ h => h) (fun _ => by simp) (hts _ (by decide +kernel))
  obtain ⟨cJ, aJ⟩ := arr_of (ty := .long) (fun _ h => h) (fun _ => by simp) (hts _ (by decide +kernel))
  obtain ⟨D, hKc⟩ : ∃ D : va_G, ∀ (k : Nat) (q : vw_C), vwCl[k]? = some q → u_Kn s q.1 q.2.1 q.2.2 (D.1 k) (D.2 k) := by
    refine ⟨(fun k => if k = 0 then c0 else c1, fun k => if k = 0 then iS0 else iS1), ?_⟩
    intro k q hq
    match k, hq with
    | 0, hq => cases hq; exact hKn0
    | 1, hq => cases hq; exact hKn1
    | k + 2, hq => simp [vwCl] at hq
  have hK : va_K D vwCl (tyL cI cZ cJ) s := ⟨hKc, fun k q hq => by
    match k, hq with
    | 0, hq => cases hq; exact aI
    | 1, hq => cases hq; exact aZ
    | 2, hq => cases hq; exact aJ
    | k + 3, hq => simp [tyL] at hq⟩
  have h : kc_C p s m #[Value.ref b] c cL_law 7 RL D vwCl (tyL cI cZ cJ) (fun z : Nat => s.heap.size ≤ z) := ⟨hx, hb, hml, hown, fun w hw => hts w (List.mem_filter.mp hw).1, hK, fun _ h => h⟩
  have hl := lv_entry ([.ref b]) (n := 7) (Nat.le_of_ble_eq_true rfl)
  rw [lg_entry_eq]
  exact lw_body h hst (st_T hts hgv) hX hbl hbA hL hr hlocks (fun _ h => h) s.heap [] _ (fun k q h => by simp at h) ⟨fun i j p q h => by simp at h, fun k q h => by simp at h⟩ va_S.rf hl
