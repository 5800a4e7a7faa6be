section
-- ===== PART A: goes FIRST, ahead of the names: the tables' words, and 'selects' of the private methods out of them =====
/-- a private method of a class that the tables say can be made, by its rows of tables_1 -/
def lw_okq (q : MethodName × Nat) : Prop := (q.1.cls ≠ "java/lang/invoke/MethodHandle" ∧ q.1.cls ≠ "java/lang/invoke/VarHandle") ∧ Cond.instantiable q.1.cls q.2 ∈ tables_1 ∧ Cond.privateMethod q.1 ∈ tables_1 ∧ Cond.instanceMethod q.1 ∈ tables_1
theorem lw_p0 : lw_okq (⟨"PolicyMonitor", "isPolicy", "(I)Z"⟩, 19) := ⟨⟨by decide +kernel, by decide +kernel⟩, List.mem_of_getElem? (i := 12) (by decide +kernel), List.mem_of_getElem? (i := 84) (by decide +kernel), List.mem_of_getElem? (i := 85) (by decide +kernel)⟩
theorem lw_p1 : lw_okq (⟨"java/lang/Throwable", "fillInStackTrace", "(I)Ljava/lang/Throwable;"⟩, 6) := ⟨⟨by decide +kernel, by decide +kernel⟩, List.mem_of_getElem? (i := 155) (by decide +kernel), List.mem_of_getElem? (i := 153) (by decide +kernel), List.mem_of_getElem? (i := 154) (by decide +kernel)⟩
theorem lw_p2 : lw_okq (⟨"PolicyMonitor", "isAsSaid", "(IIII)Z"⟩, 19) := ⟨⟨by decide +kernel, by decide +kernel⟩, List.mem_of_getElem? (i := 12) (by decide +kernel), List.mem_of_getElem? (i := 198) (by decide +kernel), List.mem_of_getElem? (i := 199) (by decide +kernel)⟩
theorem lw_p3 : lw_okq (⟨"PolicyMonitor", "isTaken", "(III)Z"⟩, 19) := ⟨⟨by decide +kernel, by decide +kernel⟩, List.mem_of_getElem? (i := 12) (by decide +kernel), List.mem_of_getElem? (i := 209) (by decide +kernel), List.mem_of_getElem? (i := 210) (by decide +kernel)⟩
theorem lw_p4 : lw_okq (⟨"PolicyMonitor", "levelAbove", "(III)I"⟩, 19) := ⟨⟨by decide +kernel, by decide +kernel⟩, List.mem_of_getElem? (i := 12) (by decide +kernel), List.mem_of_getElem? (i := 238) (by decide +kernel), List.mem_of_getElem? (i := 239) (by decide +kernel)⟩
theorem lw_p5 : lw_okq (⟨"PolicyMonitor", "addPolicy", "(IIIII)I"⟩, 19) := ⟨⟨by decide +kernel, by decide +kernel⟩, List.mem_of_getElem? (i := 12) (by decide +kernel), List.mem_of_getElem? (i := 277) (by decide +kernel), List.mem_of_getElem? (i := 278) (by decide +kernel)⟩
theorem lw_p6 : lw_okq (⟨"PolicyMonitor", "actAtDepth", "(III)I"⟩, 19) := ⟨⟨by decide +kernel, by decide +kernel⟩, List.mem_of_getElem? (i := 12) (by decide +kernel), List.mem_of_getElem? (i := 297) (by decide +kernel), List.mem_of_getElem? (i := 298) (by decide +kernel)⟩
theorem lw_p7 : lw_okq (⟨"PolicyMonitor", "perform", "(II)V"⟩, 19) := ⟨⟨by decide +kernel, by decide +kernel⟩, List.mem_of_getElem? (i := 12) (by decide +kernel), List.mem_of_getElem? (i := 301) (by decide +kernel), List.mem_of_getElem? (i := 302) (by decide +kernel)⟩
theorem lw_p8 : lw_okq (⟨"PolicyMonitor", "suggest", "(IIIZ)I"⟩, 19) := ⟨⟨by decide +kernel, by decide +kernel⟩, List.mem_of_getElem? (i := 12) (by decide +kernel), List.mem_of_getElem? (i := 305) (by decide +kernel), List.mem_of_getElem? (i := 306) (by decide +kernel)⟩
theorem lw_p9 : lw_okq (⟨"PolicyMonitor", "suggestOfPair", "(IIIZ)I"⟩, 19) := ⟨⟨by decide +kernel, by decide +kernel⟩, List.mem_of_getElem? (i := 12) (by decide +kernel), List.mem_of_getElem? (i := 309) (by decide +kernel), List.mem_of_getElem? (i := 310) (by decide +kernel)⟩
theorem lw_p10 : lw_okq (⟨"PolicyMonitor", "addNote", "(I)V"⟩, 19) := ⟨⟨by decide +kernel, by decide +kernel⟩, List.mem_of_getElem? (i := 12) (by decide +kernel), List.mem_of_getElem? (i := 322) (by decide +kernel), List.mem_of_getElem? (i := 323) (by decide +kernel)⟩
theorem lw_p11 : lw_okq (⟨"PolicyMonitor", "nextEntry", "(II)I"⟩, 19) := ⟨⟨by decide +kernel, by decide +kernel⟩, List.mem_of_getElem? (i := 12) (by decide +kernel), List.mem_of_getElem? (i := 326) (by decide +kernel), List.mem_of_getElem? (i := 327) (by decide +kernel)⟩
theorem lw_p12 : lw_okq (⟨"PolicyMonitor", "suggestInSet", "(II)I"⟩, 19) := ⟨⟨by decide +kernel, by decide +kernel⟩, List.mem_of_getElem? (i := 12) (by decide +kernel), List.mem_of_getElem? (i := 336) (by decide +kernel), List.mem_of_getElem? (i := 337) (by decide +kernel)⟩
theorem lw_p13 : lw_okq (⟨"PolicyMonitor", "follow", "(III)I"⟩, 19) := ⟨⟨by decide +kernel, by decide +kernel⟩, List.mem_of_getElem? (i := 12) (by decide +kernel), List.mem_of_getElem? (i := 343) (by decide +kernel), List.mem_of_getElem? (i := 344) (by decide +kernel)⟩
theorem lw_p14 : lw_okq (⟨"PolicyMonitor", "accept", "(III)V"⟩, 19) := ⟨⟨by decide +kernel, by decide +kernel⟩, List.mem_of_getElem? (i := 12) (by decide +kernel), List.mem_of_getElem? (i := 350) (by decide +kernel), List.mem_of_getElem? (i := 351) (by decide +kernel)⟩
theorem lw_p15 : lw_okq (⟨"PolicyMonitor", "step", "(II)V"⟩, 19) := ⟨⟨by decide +kernel, by decide +kernel⟩, List.mem_of_getElem? (i := 12) (by decide +kernel), List.mem_of_getElem? (i := 354) (by decide +kernel), List.mem_of_getElem? (i := 355) (by decide +kernel)⟩
def lw_privs_1 : List (MethodName × Nat) := [(⟨"PolicyMonitor", "isPolicy", "(I)Z"⟩, 19), (⟨"java/lang/Throwable", "fillInStackTrace", "(I)Ljava/lang/Throwable;"⟩, 6), (⟨"PolicyMonitor", "isAsSaid", "(IIII)Z"⟩, 19), (⟨"PolicyMonitor", "isTaken", "(III)Z"⟩, 19), (⟨"PolicyMonitor", "levelAbove", "(III)I"⟩, 19), (⟨"PolicyMonitor", "addPolicy", "(IIIII)I"⟩, 19), (⟨"PolicyMonitor", "actAtDepth", "(III)I"⟩, 19), (⟨"PolicyMonitor", "perform", "(II)V"⟩, 19), (⟨"PolicyMonitor", "suggest", "(IIIZ)I"⟩, 19), (⟨"PolicyMonitor", "suggestOfPair", "(IIIZ)I"⟩, 19), (⟨"PolicyMonitor", "addNote", "(I)V"⟩, 19), (⟨"PolicyMonitor", "nextEntry", "(II)I"⟩, 19), (⟨"PolicyMonitor", "suggestInSet", "(II)I"⟩, 19), (⟨"PolicyMonitor", "follow", "(III)I"⟩, 19), (⟨"PolicyMonitor", "accept", "(III)V"⟩, 19), (⟨"PolicyMonitor", "step", "(II)V"⟩, 19)]
theorem lw_r1 : ∀ q ∈ lw_privs_1, lw_okq q := List.forall_mem_cons.mpr ⟨lw_p0, List.forall_mem_cons.mpr ⟨lw_p1, List.forall_mem_cons.mpr ⟨lw_p2, List.forall_mem_cons.mpr ⟨lw_p3, List.forall_mem_cons.mpr ⟨lw_p4, List.forall_mem_cons.mpr ⟨lw_p5, List.forall_mem_cons.mpr ⟨lw_p6, List.forall_mem_cons.mpr ⟨lw_p7, List.forall_mem_cons.mpr ⟨lw_p8, List.forall_mem_cons.mpr ⟨lw_p9, List.forall_mem_cons.mpr ⟨lw_p10, List.forall_mem_cons.mpr ⟨lw_p11, List.forall_mem_cons.mpr ⟨lw_p12, List.forall_mem_cons.mpr ⟨lw_p13, List.forall_mem_cons.mpr ⟨lw_p14, List.forall_mem_cons.mpr ⟨lw_p15, fun _ h => absurd h List.not_mem_nil⟩⟩⟩⟩⟩⟩⟩⟩⟩⟩⟩⟩⟩⟩⟩⟩
theorem lw_p16 : lw_okq (⟨"PolicyMonitor", "forgetSpent", "()V"⟩, 19) := ⟨⟨by decide +kernel, by decide +kernel⟩, List.mem_of_getElem? (i := 12) (by decide +kernel), List.mem_of_getElem? (i := 358) (by decide +kernel), List.mem_of_getElem? (i := 359) (by decide +kernel)⟩
theorem lw_p17 : lw_okq (⟨"PolicyMonitor", "suggestNow", "(II)I"⟩, 19) := ⟨⟨by decide +kernel, by decide +kernel⟩, List.mem_of_getElem? (i := 12) (by decide +kernel), List.mem_of_getElem? (i := 372) (by decide +kernel), List.mem_of_getElem? (i := 373) (by decide +kernel)⟩
theorem lw_p18 : lw_okq (⟨"PolicyMonitorModel", "out", "(III)Z"⟩, 28) := ⟨⟨by decide +kernel, by decide +kernel⟩, List.mem_of_getElem? (i := 392) (by decide +kernel), List.mem_of_getElem? (i := 491) (by decide +kernel), List.mem_of_getElem? (i := 492) (by decide +kernel)⟩
theorem lw_p19 : lw_okq (⟨"PolicyMonitorModel", "fail", "(I)I"⟩, 28) := ⟨⟨by decide +kernel, by decide +kernel⟩, List.mem_of_getElem? (i := 392) (by decide +kernel), List.mem_of_getElem? (i := 495) (by decide +kernel), List.mem_of_getElem? (i := 496) (by decide +kernel)⟩
theorem lw_p20 : lw_okq (⟨"PolicyMonitorModel", "fine", "(I)I"⟩, 28) := ⟨⟨by decide +kernel, by decide +kernel⟩, List.mem_of_getElem? (i := 392) (by decide +kernel), List.mem_of_getElem? (i := 499) (by decide +kernel), List.mem_of_getElem? (i := 500) (by decide +kernel)⟩
theorem lw_p21 : lw_okq (⟨"PolicyMonitorModel", "fits", "(IIII)Z"⟩, 28) := ⟨⟨by decide +kernel, by decide +kernel⟩, List.mem_of_getElem? (i := 392) (by decide +kernel), List.mem_of_getElem? (i := 507) (by decide +kernel), List.mem_of_getElem? (i := 508) (by decide +kernel)⟩
theorem lw_p22 : lw_okq (⟨"PolicyMonitorModel", "namesA", "(I)Z"⟩, 28) := ⟨⟨by decide +kernel, by decide +kernel⟩, List.mem_of_getElem? (i := 392) (by decide +kernel), List.mem_of_getElem? (i := 511) (by decide +kernel), List.mem_of_getElem? (i := 512) (by decide +kernel)⟩
theorem lw_p23 : lw_okq (⟨"PolicyMonitorModel", "no", "(I)Z"⟩, 28) := ⟨⟨by decide +kernel, by decide +kernel⟩, List.mem_of_getElem? (i := 392) (by decide +kernel), List.mem_of_getElem? (i := 515) (by decide +kernel), List.mem_of_getElem? (i := 516) (by decide +kernel)⟩
theorem lw_p24 : lw_okq (⟨"PolicyMonitorModel", "namesB", "(I)Z"⟩, 28) := ⟨⟨by decide +kernel, by decide +kernel⟩, List.mem_of_getElem? (i := 392) (by decide +kernel), List.mem_of_getElem? (i := 519) (by decide +kernel), List.mem_of_getElem? (i := 520) (by decide +kernel)⟩
theorem lw_p25 : lw_okq (⟨"PolicyMonitorModel", "acting", "()I"⟩, 28) := ⟨⟨by decide +kernel, by decide +kernel⟩, List.mem_of_getElem? (i := 392) (by decide +kernel), List.mem_of_getElem? (i := 531) (by decide +kernel), List.mem_of_getElem? (i := 532) (by decide +kernel)⟩
theorem lw_p26 : lw_okq (⟨"PolicyMonitorModel", "askAll", "(IIZ)I"⟩, 28) := ⟨⟨by decide +kernel, by decide +kernel⟩, List.mem_of_getElem? (i := 392) (by decide +kernel), List.mem_of_getElem? (i := 535) (by decide +kernel), List.mem_of_getElem? (i := 536) (by decide +kernel)⟩
theorem lw_p27 : lw_okq (⟨"PolicyMonitorModel", "next", "(III)I"⟩, 28) := ⟨⟨by decide +kernel, by decide +kernel⟩, List.mem_of_getElem? (i := 392) (by decide +kernel), List.mem_of_getElem? (i := 539) (by decide +kernel), List.mem_of_getElem? (i := 540) (by decide +kernel)⟩
theorem lw_p28 : lw_okq (⟨"PolicyMonitorModel", "in", "(II)Z"⟩, 28) := ⟨⟨by decide +kernel, by decide +kernel⟩, List.mem_of_getElem? (i := 392) (by decide +kernel), List.mem_of_getElem? (i := 543) (by decide +kernel), List.mem_of_getElem? (i := 544) (by decide +kernel)⟩
theorem lw_p29 : lw_okq (⟨"PolicyMonitorModel", "takesA", "(III)Z"⟩, 28) := ⟨⟨by decide +kernel, by decide +kernel⟩, List.mem_of_getElem? (i := 392) (by decide +kernel), List.mem_of_getElem? (i := 547) (by decide +kernel), List.mem_of_getElem? (i := 548) (by decide +kernel)⟩
theorem lw_p30 : lw_okq (⟨"PolicyMonitorModel", "combine", "(IIIZ)V"⟩, 28) := ⟨⟨by decide +kernel, by decide +kernel⟩, List.mem_of_getElem? (i := 392) (by decide +kernel), List.mem_of_getElem? (i := 551) (by decide +kernel), List.mem_of_getElem? (i := 552) (by decide +kernel)⟩
theorem lw_p31 : lw_okq (⟨"PolicyMonitorModel", "plain", "(III)V"⟩, 28) := ⟨⟨by decide +kernel, by decide +kernel⟩, List.mem_of_getElem? (i := 392) (by decide +kernel), List.mem_of_getElem? (i := 555) (by decide +kernel), List.mem_of_getElem? (i := 556) (by decide +kernel)⟩
def lw_privs_2 : List (MethodName × Nat) := [(⟨"PolicyMonitor", "forgetSpent", "()V"⟩, 19), (⟨"PolicyMonitor", "suggestNow", "(II)I"⟩, 19), (⟨"PolicyMonitorModel", "out", "(III)Z"⟩, 28), (⟨"PolicyMonitorModel", "fail", "(I)I"⟩, 28), (⟨"PolicyMonitorModel", "fine", "(I)I"⟩, 28), (⟨"PolicyMonitorModel", "fits", "(IIII)Z"⟩, 28), (⟨"PolicyMonitorModel", "namesA", "(I)Z"⟩, 28), (⟨"PolicyMonitorModel", "no", "(I)Z"⟩, 28), (⟨"PolicyMonitorModel", "namesB", "(I)Z"⟩, 28), (⟨"PolicyMonitorModel", "acting", "()I"⟩, 28), (⟨"PolicyMonitorModel", "askAll", "(IIZ)I"⟩, 28), (⟨"PolicyMonitorModel", "next", "(III)I"⟩, 28), (⟨"PolicyMonitorModel", "in", "(II)Z"⟩, 28), (⟨"PolicyMonitorModel", "takesA", "(III)Z"⟩, 28), (⟨"PolicyMonitorModel", "combine", "(IIIZ)V"⟩, 28), (⟨"PolicyMonitorModel", "plain", "(III)V"⟩, 28)]
theorem lw_r2 : ∀ q ∈ lw_privs_2, lw_okq q := List.forall_mem_cons.mpr ⟨lw_p16, List.forall_mem_cons.mpr ⟨lw_p17, List.forall_mem_cons.mpr ⟨lw_p18, List.forall_mem_cons.mpr ⟨lw_p19, List.forall_mem_cons.mpr ⟨lw_p20, List.forall_mem_cons.mpr ⟨lw_p21, List.forall_mem_cons.mpr ⟨lw_p22, List.forall_mem_cons.mpr ⟨lw_p23, List.forall_mem_cons.mpr ⟨lw_p24, List.forall_mem_cons.mpr ⟨lw_p25, List.forall_mem_cons.mpr ⟨lw_p26, List.forall_mem_cons.mpr ⟨lw_p27, List.forall_mem_cons.mpr ⟨lw_p28, List.forall_mem_cons.mpr ⟨lw_p29, List.forall_mem_cons.mpr ⟨lw_p30, List.forall_mem_cons.mpr ⟨lw_p31, fun _ h => absurd h List.not_mem_nil⟩⟩⟩⟩⟩⟩⟩⟩⟩⟩⟩⟩⟩⟩⟩⟩
theorem lw_p32 : lw_okq (⟨"PolicyMonitorModel", "suggest", "(II)V"⟩, 28) := ⟨⟨by decide +kernel, by decide +kernel⟩, List.mem_of_getElem? (i := 392) (by decide +kernel), List.mem_of_getElem? (i := 559) (by decide +kernel), List.mem_of_getElem? (i := 560) (by decide +kernel)⟩
theorem lw_p33 : lw_okq (⟨"PolicyMonitorModel", "same", "(II)V"⟩, 28) := ⟨⟨by decide +kernel, by decide +kernel⟩, List.mem_of_getElem? (i := 392) (by decide +kernel), List.mem_of_getElem? (i := 563) (by decide +kernel), List.mem_of_getElem? (i := 564) (by decide +kernel)⟩
theorem lw_p34 : lw_okq (⟨"PolicyMonitorModel", "accept", "(II)V"⟩, 28) := ⟨⟨by decide +kernel, by decide +kernel⟩, List.mem_of_getElem? (i := 392) (by decide +kernel), List.mem_of_getElem? (i := 567) (by decide +kernel), List.mem_of_getElem? (i := 568) (by decide +kernel)⟩
theorem lw_p35 : lw_okq (⟨"PolicyMonitorModel", "perform", "(II)V"⟩, 28) := ⟨⟨by decide +kernel, by decide +kernel⟩, List.mem_of_getElem? (i := 392) (by decide +kernel), List.mem_of_getElem? (i := 571) (by decide +kernel), List.mem_of_getElem? (i := 572) (by decide +kernel)⟩
def lw_privs_3 : List (MethodName × Nat) := [(⟨"PolicyMonitorModel", "suggest", "(II)V"⟩, 28), (⟨"PolicyMonitorModel", "same", "(II)V"⟩, 28), (⟨"PolicyMonitorModel", "accept", "(II)V"⟩, 28), (⟨"PolicyMonitorModel", "perform", "(II)V"⟩, 28)]
theorem lw_r3 : ∀ q ∈ lw_privs_3, lw_okq q := List.forall_mem_cons.mpr ⟨lw_p32, List.forall_mem_cons.mpr ⟨lw_p33, List.forall_mem_cons.mpr ⟨lw_p34, List.forall_mem_cons.mpr ⟨lw_p35, fun _ h => absurd h List.not_mem_nil⟩⟩⟩⟩
def lw_privs : List (MethodName × Nat) := lw_privs_1 ++ (lw_privs_2 ++ (lw_privs_3))
def lw_tbl : List Cond := k2_sels lw_privs ++ tables_1
theorem lw_privs_ok : ∀ q ∈ lw_privs, lw_okq q := by
  show ∀ q ∈ lw_privs_1 ++ (lw_privs_2 ++ (lw_privs_3)), lw_okq q
  exact List.forall_mem_append.mpr ⟨lw_r1, List.forall_mem_append.mpr ⟨lw_r2, lw_r3⟩⟩
end
section
/-! ===== BEGIN words of one list among another's, by their places ===== -/
theorem goodIn_r {big : List Cond} (ws : List Cond) (ps : List Nat) (hp : ws = ps.filterMap (fun i => big[i]?)) (h : ws.all goodWord = true) : GoodIn big ws := by
  intro w hw
  have h1 := List.all_eq_true.mp h w hw
  rw [hp] at hw
  obtain ⟨i, -, hi⟩ := List.mem_filterMap.mp hw
  have hm : w ∈ big := by first | exact List.mem_of_getElem? hi | exact List.getElem?_mem hi
  exact ⟨hm, good_of_word h1⟩
theorem goodIn_app {big a b : List Cond} (ha : GoodIn big a) (hb : GoodIn big b) : GoodIn big (a ++ b) := fun w h => (List.mem_append.mp h).elim (ha w) (hb w)
theorem goodIn_ca {big a b : List Cond} {c : Cond} (ha : GoodIn big (c :: a)) (hb : GoodIn big b) : GoodIn big (c :: (a ++ b)) := fun w h => (List.mem_cons.mp h).elim (fun e => ha w (List.mem_cons.mpr (Or.inl e))) (fun h => (List.mem_append.mp h).elim (fun h => ha w (List.mem_cons.mpr (Or.inr h))) (hb w))
theorem goodIn_sub {big ws : List Cond} (hm : ∀ w ∈ ws, w ∈ big) (h : ws.all goodWord = true) : GoodIn big ws := fun w hw => ⟨hm w hw, good_of_word (List.all_eq_true.mp h w hw)⟩
/-! ===== END ===== -/

/-! ===== BEGIN exceptions that leave a method, and their catching by the caller (launches without stack traces) ===== -/
section VXA
/-! The laws vx_back, vx_callV, vx_callS, vx_callSW, vx_throw0, vx_throwS follow proofs of the library, with one case more: JvmDerived/Free/Laws.lean (Back.of_free), Shelf42/LK1.lean (callV, callS), Shelf/KitTraced.lean (throwNew0V, throwNewS). -/
/-- where a method has thrown q: the class by its name, the cell, what was written, the world -/
def vx_T (XC : String → State → State → Prop) (st : State) (q : Addr) (t : State) (mc ms : Nat) (free : Addr → Prop) : Prop :=
  ∃ (E : String) (ce : Cell) (L : List Loc), XC E st t ∧ t.heap[q]? = some ce ∧ ce.vm = .none ∧ st.vm.findClass E = some ce.cls ∧ st.WarmedH t.vm ∧ st.sameButNew ({ t with vm := st.vm } : State) L mc ms ∧ ∀ z ∈ L, free z.base
def vx_Q (Qc : Array Value → State → Outcome → State → Prop) (XC : String → State → State → Prop) (mc ms : Nat) (free : Addr → Prop) : Array Value → State → Outcome → State → Prop := fun a st o t =>
  (Qc a st o t ∧ ∃ L, FrameEnd st o t L mc ms ∧ ∀ q ∈ L, free q.base) ∨ ∃ q, o = .threw q ∧ vx_T XC st q t mc ms free
/-- a callee that returns or throws -/
def vx_Met (l : Launch) (y : MethodName) (ws : List Cond) (rm : Room) (Pc : Array Value → State → Prop) (Qc : Array Value → State → Outcome → State → Prop) (XC : String → State → State → Prop) (mc ms : Nat) (free : Addr → Prop) : Prop :=
  MetFree l y (headSpec ws rm) Pc (fun _ _ _ _ _ => True) (vx_Q Qc XC mc ms free)
def vx_Post (XC : String → State → State → Prop) (mc ms : Nat) (free : Addr → Prop) : Pt → Array Value → Addr → Pt → Prop := fun A a q B =>
  ∃ (g : JFrame) (mk : MethodId) (t : State) (L : List Loc) (E : String) (ce : Cell), B.U.heap = t.heap ∧ B.U.vm = t.vm ∧ XC E (A.U.calling g mk a) t ∧ t.heap[q]? = some ce ∧ ce.vm = .none ∧ A.U.vm.findClass E = some ce.cls ∧ B.locs = A.locs ++ L ∧ (∀ z ∈ L, free z.base) ∧ B.cells = A.cells + mc ∧ B.slots = A.slots + ms
def vx_Back (l : Launch) (R : Room) (p : Program) (e : Env) (below : List Frame) (s : State) (sargs : Array Value) (y : MethodName) (len W9 : Nat)
    (Pre : Pt → Array Value → Prop) (Post : Pt → Array Value → Option Value → Pt → Prop) (PostX : Pt → Array Value → Addr → Pt → Prop) : Prop :=
  ∀ (m : MethodId) (meth : Method) (c : Code) (A : Pt) (g : JFrame) (ig : Instr) (mk : MethodId) (a : Array Value),
    Stand p l e R s m sargs below meth c A.U A.locs A.cells A.slots → g.method = m → g.locals.size = c.maxLocals → decode c.code g.pc = .ok (ig, len) →
    2 * g.monitorRoom + (g.stack.map fun v => v.category).sum ≤ W9 → A.U.methodNamed? y = some mk → Pre A a →
    (∃ (v : Option Value) (B : Pt), Stand p l e R s m sargs below meth c B.U B.locs B.cells B.slots ∧ Post A a v B ∧
      Steps p.tables e below (doInvoke e (A.U.setTop g) [] mk a).1 (B.U.setTop { g with pc := g.pc + len, stack := v.toList ++ g.stack })) ∨
    (∃ (q : Addr) (B : Pt), Stand p l e R s m sargs below meth c B.U B.locs B.cells B.slots ∧ PostX A a q B ∧
      Steps p.tables e below (doInvoke e (A.U.setTop g) [] mk a).1 ((B.U.setTop g).pushFrame (.throwing q)))
section Payer
variable {l : Launch} {R : Room} {p : Program} {e : Env} {below : List Frame} {s : State} {sargs : Array Value} {y : MethodName} {len W9 : Nat}
theorem vx_back {ws : List Cond} {rm : Room} {Pc : Array Value → State → Prop} {Qc : Array Value → State → Outcome → State → Prop} {XC : String → State → State → Prop} {mc ms : Nat} {free : Addr → Prop} {bytes : ByteArray} {maxL : Nat} {ret : Option FieldType}
    (hM : vx_Met l y ws rm Pc Qc XC mc ms free) (hblind : FrameBlind Pc) (hrc : rm.cells = mc) (hrs : rm.slots = ms)
    (hframes : rm.frames + 1 ≤ R.frames) (hlocals : W9 + (maxL + 11) + rm.locals ≤ R.locals)
    (hws : ∀ w ∈ ws, ∀ a' U, s.WarmedH U.vm → w.before a' U = true) (hcode : Cond.code y bytes maxL ret ∈ ws) (hinit : ∀ a' U, s.WarmedH U.vm → (Cond.initialized y.cls).before a' U = true) :
    vx_Back l R p e below s sargs y len W9 (PreOf R mc ms Pc) (PostOf Qc mc ms free) (vx_Post XC mc ms free) := by
  intro m meth c A g ig mk a X hg hsize hdg hW hn hp
  have h1 : (headSpec ws rm).pre.before a A.U = true := atoms_intro fun w hw => hws w hw _ _ X.warmed
  have h2 : (Cond.code y bytes maxL ret).before a A.U = true := hws _ hcode _ _ X.warmed
  have h3 : (Cond.initialized y.cls).before a A.U = true := hinit _ _ X.warmed
  have h4 : A.cells + (headSpec ws rm).room.cells ≤ R.cells := by rw [show (headSpec ws rm).room.cells = mc from hrc]; exact hp.1
  have h5 : A.slots + (headSpec ws rm).room.slots ≤ R.slots := by rw [show (headSpec ws rm).room.slots = ms from hrs]; exact hp.2.1
  have hPc : Pc a (A.U.calling g mk a) := hblind _ _ _ _ hp.2.2
  obtain ⟨U, Ls, c0, s0⟩ := A
  dsimp only [Pt.U, Pt.locs, Pt.cells, Pt.slots] at h1 h2 h3 h4 h5 X hn hPc ⊢
  obtain ⟨methY, cY, hmY, hcY, -, hlY, -, -, -, -⟩ := Cond.code_spec hn h2
  obtain ⟨kY, hkY, -⟩ := className_of_methodNamed hn
  have hinitY : kY.init = .initialized := Cond.initialized_spec (findClass_of_methodNamed hn) hkY h3
  have h : At U g.method c below := by rw [hg]; exact X.here
  have hlocals9 : W9 + (maxL + 11) + (headSpec ws rm).room.locals ≤ R.locals := hlocals
  have happ : (headSpec ws rm).appliesLoose y e.platform (U.calling g mk a) = true :=
    Spec.appliesLoose_calling (g := g) h hdg hn hkY hinitY
      (X.room_calling (g := g) (R' := (headSpec ws rm).room) hsize hmY hcY hframes (by rw [hlY]; omega) h4 h5) h1
  obtain ⟨mid, hmid⟩ := h.above
  have hfr : (U.setTop g).frames = (.java g :: mid) ++ below := by rw [State.frames_setTop' g h.top, hmid]; rfl
  obtain ⟨o, s₂, hsteps, -, hend, hq⟩ := Steps.callFree hM p X.admits X.cas X.clock (acts := []) hfr happ hPc trivial
  have hq' : vx_Q Qc XC mc ms free a (U.calling g mk a) o s₂ := hq
  rw [State.frames_setTop' g h.top] at hend
  obtain ⟨g₀, hg0⟩ := Option.isSome_iff_exists.mp h.top
  obtain ⟨r, hr⟩ := State.topJava?_eq_some.mp hg0
  have hr' : (({ U with heap := s₂.heap, slotsUsed := s₂.slotsUsed } : State).setVm s₂.vm).frames = .java g₀ :: r := hr
  rcases hq' with ⟨hqc, L, hfe, hL⟩ | ⟨q, rfl, E, ce, L, hx, hce, hcv, hcl, hW₂, hsm, hL⟩
  · obtain ⟨⟨v, rfl⟩, hW₂, e2, q2, q3, q4, q5, q6⟩ := id hfe
    have e3 : s₂ = ({ (U.calling g mk a).setFrames s₂.frames with heap := s₂.heap, slotsUsed := s₂.slotsUsed } : State).setVm s₂.vm := by
      have : s₂ = ({ s₂ with vm := (U.calling g mk a).vm } : State).setVm s₂.vm := rfl
      rw [e2] at this
      exact this
    obtain ⟨c₂, i₂, len₂, hc₂, hd₂, hf₂⟩ := hend
    have hW' : U.WarmedH s₂.vm := hW₂
    have hcc : c₂ = c := by
      have h1 : s₂.code? g.method = U.code? g.method := by
        rw [State.code?_eq, State.code?_eq, hW'.alike.method?]
      exact Option.some.inj (hc₂.symm.trans (h1.trans h.code))
    subst hcc
    have hlen : len₂ = len := by rw [hdg] at hd₂; cases hd₂; rfl
    subst hlen
    have hs₂ : s₂ = (({ U with heap := s₂.heap, slotsUsed := s₂.slotsUsed } : State).setVm s₂.vm).setTop { g with pc := g.pc + len₂, stack := v.toList ++ g.stack } := by
      refine e3.trans ?_
      rw [hf₂, State.calling_eq h.top, State.setFrames_setFrames, State.setTop_of_frames _ hr', hr]
      rfl
    have hsame : U.sameButNew ({ U with heap := s₂.heap, slotsUsed := s₂.slotsUsed } : State) L mc ms := by
      refine ⟨?_, q2, q3, q4, q5, q6⟩
      obtain ⟨t, ht, -⟩ := State.frames_cons hr
      show ({ U with heap := s₂.heap, slotsUsed := s₂.slotsUsed } : State) = { U.setFrames U.frames with heap := s₂.heap, slotsUsed := s₂.slotsUsed }
      rw [State.setFrames_self ht]
    subst hg
    refine Or.inl ⟨v, ⟨(({ U with heap := s₂.heap, slotsUsed := s₂.slotsUsed } : State).setVm s₂.vm), Ls ++ L, c0 + mc, s0 + ms⟩,
      ⟨X.admits, X.cas, X.clock, X.frames, X.room, X.hears, X.method, X.code, (X.here.setHeapUsed s₂.heap s₂.slotsUsed).setVm hW'.alike, X.tail, State.WarmedH.trans X.warmed hW', X.limits, X.bytes, X.same.trans (hsame.setVm s.vm)⟩,
      ⟨g, mk, s₂, L, rfl, rfl, hqc, rfl, hL, rfl, rfl⟩, ?_⟩
    show Steps p.tables e below _ ((({ U with heap := s₂.heap, slotsUsed := s₂.slotsUsed } : State).setVm s₂.vm).setTop { g with pc := g.pc + len₂, stack := v.toList ++ g.stack })
    rw [← hs₂]
    exact hsteps
  · obtain ⟨e2, q2, q3, q4, q5, q6⟩ := id hsm
    have e3 : s₂ = ({ (U.calling g mk a).setFrames s₂.frames with heap := s₂.heap, slotsUsed := s₂.slotsUsed } : State).setVm s₂.vm := by
      have : s₂ = ({ s₂ with vm := (U.calling g mk a).vm } : State).setVm s₂.vm := rfl
      rw [e2] at this
      exact this
    have hf₂ : s₂.frames = .throwing q :: .java g :: U.frames.tail := hend
    have hW' : U.WarmedH s₂.vm := hW₂
    have hs₂ : s₂ = ((({ U with heap := s₂.heap, slotsUsed := s₂.slotsUsed } : State).setVm s₂.vm).setTop g).pushFrame (.throwing q) := by
      refine e3.trans ?_
      rw [hf₂, State.calling_eq h.top, State.setFrames_setFrames, State.pushFrame, State.frames_setTop _ hr', State.setTop_of_frames _ hr', State.setFrames_setFrames, hr]
      rfl
    have hsame : U.sameButNew ({ U with heap := s₂.heap, slotsUsed := s₂.slotsUsed } : State) L mc ms := by
      refine ⟨?_, q2, q3, q4, q5, q6⟩
      obtain ⟨t, ht, -⟩ := State.frames_cons hr
      show ({ U with heap := s₂.heap, slotsUsed := s₂.slotsUsed } : State) = { U.setFrames U.frames with heap := s₂.heap, slotsUsed := s₂.slotsUsed }
      rw [State.setFrames_self ht]
    subst hg
    refine Or.inr ⟨q, ⟨(({ U with heap := s₂.heap, slotsUsed := s₂.slotsUsed } : State).setVm s₂.vm), Ls ++ L, c0 + mc, s0 + ms⟩,
      ⟨X.admits, X.cas, X.clock, X.frames, X.room, X.hears, X.method, X.code, (X.here.setHeapUsed s₂.heap s₂.slotsUsed).setVm hW'.alike, X.tail, State.WarmedH.trans X.warmed hW', X.limits, X.bytes, X.same.trans (hsame.setVm s.vm)⟩,
      ⟨g, mk, s₂, L, E, ce, rfl, rfl, hx, hce, hcv, hcl, rfl, hL, rfl, rfl⟩, ?_⟩
    show Steps p.tables e below _ (((({ U with heap := s₂.heap, slotsUsed := s₂.slotsUsed } : State).setVm s₂.vm).setTop g).pushFrame (.throwing q))
    rw [← hs₂]
    exact hsteps
end Payer
section Calls
variable {p : Program} {l : Launch} {e : Env} {R : Room} {s : State} {m : MethodId} {args : Array Value} {below : List Frame} {meth : Method} {c : Code} {T : State} {locs : List Loc} {cells slots : Nat}
theorem vx_callV (X : Stand p l e R s m args below meth c T locs cells slots) (hexec : p.tables.exec = Jvm.exec) {own C : String} {index : Nat} {y : MethodName} {bytes : ByteArray} {maxL : Nat} {ret : Option FieldType}
    (hown : s.vm.findClass own = some m.cls) (hlink : (Cond.methodLink own index y).before args s = true) (hinst : (Cond.instanceMethod y).before args s = true) (hsel : (Cond.selects C y y).before args s = true)
    (hcode : (Cond.code y bytes maxL ret).before args s = true) (hy : y.cls ≠ "java/lang/invoke/MethodHandle" ∧ y.cls ≠ "java/lang/invoke/VarHandle")
    {W9 : Nat} {Pre : Pt → Array Value → Prop} {Post : Pt → Array Value → Option Value → Pt → Prop} {PostX : Pt → Array Value → Addr → Pt → Prop} (hK : vx_Back l R p e below s args y 3 W9 Pre Post PostX)
    {b : Addr} {cellB : Cell} (hcell : T.heap[b]? = some cellB) (hobj : cellB.vm.isStatics = false) (hcls : s.vm.findClass C = some cellB.cls)
    {g : JFrame} (hg : g.method = m) (hsize : g.locals.size = c.maxLocals) {argsL rest : List Value} (hlen : ∀ sig, parseMethodDescriptor y.desc = some sig → argsL.length = sig.parameters.length)
    (hstack : g.stack = argsL.reverse ++ .ref b :: rest) (hW : 2 * g.monitorRoom + (rest.map fun v => v.category).sum ≤ W9) (hdg : decode c.code g.pc = .ok (.invokevirtual index, 3))
    (hpre : ∀ vm₁, s.WarmedH vm₁ → Pre ⟨T.setVm vm₁, locs, cells, slots⟩ (Value.ref b :: argsL).toArray) :
    (∃ (v : Option Value) (vm₁ : Vm) (B : Pt), s.WarmedH vm₁ ∧ Stand p l e R s m args below meth c B.U B.locs B.cells B.slots ∧ Post ⟨T.setVm vm₁, locs, cells, slots⟩ (Value.ref b :: argsL).toArray v B ∧
      ∀ target, Steps p.tables e below (B.U.setTop { g with pc := g.pc + 3, stack := v.toList ++ rest }) target → Steps p.tables e below (T.setTop g) target) ∨
    (∃ (q : Addr) (vm₁ : Vm) (B : Pt), s.WarmedH vm₁ ∧ Stand p l e R s m args below meth c B.U B.locs B.cells B.slots ∧ PostX ⟨T.setVm vm₁, locs, cells, slots⟩ (Value.ref b :: argsL).toArray q B ∧
      Steps p.tables e below (T.setTop g) ((B.U.setTop { g with stack := rest }).pushFrame (.throwing q))) := by
  obtain ⟨mk, methM, hnamed, hmethM, hstM, habM⟩ := Cond.instanceMethod_spec hinst
  obtain ⟨methM', cM, hmethM', -, -, -, -, -, -, hsigM⟩ := Cond.code_spec hnamed hcode
  cases hmethM.symm.trans hmethM'
  obtain ⟨c2, r2, m2, q1, q2, q3, q4, kP, hkP, hkPi⟩ := Cond.selects_spec hsel
  cases hcls.symm.trans q1
  cases (State.methodFound?_of_named hnamed hy).symm.trans q2
  cases hnamed.symm.trans q3
  have hselP : selectMethod e.platform s.vm cellB.cls mk = .method mk := by rw [Launch.admits_selectMethod X.admits]; exact q4
  obtain ⟨vm₁, X₁, hstep₁⟩ := X.invokevirtual hexec hown hlink hnamed hmethM hstM hkP hkPi hy (a := b) (cell := cellB) hcell
    (fun z h => by rw [h] at hobj; cases hobj) hselP hmethM habM hkP hkPi (g := g) hg (argsL := argsL) (rest := rest) (hlen _ hsigM) hstack hdg
  rcases hK m meth c ⟨T.setVm vm₁, locs, cells, slots⟩ { g with stack := rest } (.invokevirtual index) mk (Value.ref b :: argsL).toArray X₁ hg hsize hdg hW (X₁.named hnamed) (hpre vm₁ X₁.warmed) with ⟨v, B, X', hpost, hsteps⟩ | ⟨q, B, X', hpost, hsteps⟩
  · exact Or.inl ⟨v, vm₁, B, X₁.warmed, X', hpost, fun target h => hstep₁ _ fun acts => by rw [doInvoke_state]; exact hsteps.trans h⟩
  · exact Or.inr ⟨q, vm₁, B, X₁.warmed, X', hpost, hstep₁ _ fun acts => by rw [doInvoke_state]; exact hsteps⟩
theorem vx_callS (X : Stand p l e R s m args below meth c T locs cells slots) (hexec : p.tables.exec = Jvm.exec) {own : String} {index : Nat} {y : MethodName} {bytes : ByteArray} {maxL : Nat} {ret : Option FieldType}
    (hown : s.vm.findClass own = some m.cls) (hlink : (Cond.methodLink own index y).before args s = true) (hstat : (Cond.static y).before args s = true) (hinit : (Cond.initialized y.cls).before args s = true)
    (hcode : (Cond.code y bytes maxL ret).before args s = true) (hy : y.cls ≠ "java/lang/invoke/MethodHandle" ∧ y.cls ≠ "java/lang/invoke/VarHandle")
    {W9 : Nat} {Pre : Pt → Array Value → Prop} {Post : Pt → Array Value → Option Value → Pt → Prop} {PostX : Pt → Array Value → Addr → Pt → Prop} (hK : vx_Back l R p e below s args y 3 W9 Pre Post PostX)
    {g : JFrame} (hg : g.method = m) (hsize : g.locals.size = c.maxLocals) {argsL rest : List Value} (hlen : ∀ sig, parseMethodDescriptor y.desc = some sig → argsL.length = sig.parameters.length)
    (hstack : g.stack = argsL.reverse ++ rest) (hW : 2 * g.monitorRoom + (rest.map fun v => v.category).sum ≤ W9) (hdg : decode c.code g.pc = .ok (.invokestatic index, 3))
    (hpre : ∀ vm₁, s.WarmedH vm₁ → Pre ⟨T.setVm vm₁, locs, cells, slots⟩ argsL.toArray) :
    (∃ (v : Option Value) (vm₁ : Vm) (B : Pt), s.WarmedH vm₁ ∧ Stand p l e R s m args below meth c B.U B.locs B.cells B.slots ∧ Post ⟨T.setVm vm₁, locs, cells, slots⟩ argsL.toArray v B ∧
      ∀ target, Steps p.tables e below (B.U.setTop { g with pc := g.pc + 3, stack := v.toList ++ rest }) target → Steps p.tables e below (T.setTop g) target) ∨
    (∃ (q : Addr) (vm₁ : Vm) (B : Pt), s.WarmedH vm₁ ∧ Stand p l e R s m args below meth c B.U B.locs B.cells B.slots ∧ PostX ⟨T.setVm vm₁, locs, cells, slots⟩ argsL.toArray q B ∧
      Steps p.tables e below (T.setTop g) ((B.U.setTop { g with stack := rest }).pushFrame (.throwing q))) := by
  obtain ⟨mk, hnamed⟩ := Cond.code_named hcode
  obtain ⟨methM, cM, hmethM, -, -, -, -, -, -, hsigM⟩ := Cond.code_spec hnamed hcode
  have hstatic : methM.isStatic = true := Cond.static_spec hnamed hmethM hstat
  obtain ⟨kP, hkP, -⟩ := className_of_methodNamed hnamed
  have hinitP : kP.init = .initialized := Cond.initialized_spec (findClass_of_methodNamed hnamed) hkP hinit
  obtain ⟨vm₁, X₁, hstep₁⟩ := X.invokestatic hexec hown hlink hnamed hmethM hstatic hkP hinitP hy (g := g) hg (argsL := argsL) (rest := rest) (hlen _ hsigM) hstack hdg
  rcases hK m meth c ⟨T.setVm vm₁, locs, cells, slots⟩ { g with stack := rest } (.invokestatic index) mk argsL.toArray X₁ hg hsize hdg hW (X₁.named hnamed) (hpre vm₁ X₁.warmed) with ⟨v, B, X', hpost, hsteps⟩ | ⟨q, B, X', hpost, hsteps⟩
  · exact Or.inl ⟨v, vm₁, B, X₁.warmed, X', hpost, fun target h => hstep₁ _ fun acts => by rw [doInvoke_state]; exact hsteps.trans h⟩
  · exact Or.inr ⟨q, vm₁, B, X₁.warmed, X', hpost, hstep₁ _ fun acts => by rw [doInvoke_state]; exact hsteps⟩
end Calls
theorem vx_cls {s : State} {T : State} {vm₁ : Vm} {E : String} {k : ClassId} (hW : s.WarmedH vm₁) (h : (T.setVm vm₁).vm.findClass E = some k) : s.vm.findClass E = some k := by
  have h1 : vm₁.findClass E = some k := h
  rw [hW.alike.findClass] at h1
  exact h1
/-- the method's frame g, with q thrown over it -/
def vx_W (p : Program) (l : Launch) (e : Env) (R : Room) (s : State) (m : MethodId) (args : Array Value) (below : List Frame) (meth : Method) (c : Code) (H : Heap) (locs : List Loc) (cells slots : Nat) (Q : State → Prop) (g : JFrame) (q : Addr) : Prop :=
  ∀ T : State, T.heap = H → Stand p l e R s m args below meth c T locs cells slots → ∃ t, Steps p.tables e below ((T.setTop g).pushFrame (.throwing q)) t ∧ Q t
def vx_Run (p : Program) (l : Launch) (e : Env) (R : Room) (s : State) (m : MethodId) (args : Array Value) (below : List Frame) (meth : Method) (c : Code) (H : Heap) (locs : List Loc) (cells slots mc ms : Nat) (g : JFrame) (rest : List Value) (Qa : State → Outcome → State → Prop) (XC : String → State → State → Prop) (free : Addr → Prop) : Prop :=
  ∀ T : State, T.heap = H → Stand p l e R s m args below meth c T locs cells slots →
    (∃ (v : Option Value) (st₀ t T' : State) (L : List Loc), st₀.heap = H ∧ Stand p l e R s m args below meth c T' (locs ++ L) (cells + mc) (slots + ms) ∧ (∀ q ∈ L, free q.base) ∧ T'.heap = t.heap ∧ T'.vm = t.vm ∧ Qa st₀ (.returned v) t ∧
      Goes p e below T g T' { g with pc := g.pc + 3, stack := v.toList ++ rest }) ∨
    (∃ (q : Addr) (st₀ t T' : State) (L : List Loc) (E : String) (ce : Cell), st₀.heap = H ∧ Stand p l e R s m args below meth c T' (locs ++ L) (cells + mc) (slots + ms) ∧ (∀ z ∈ L, free z.base) ∧ T'.heap = t.heap ∧ T'.vm = t.vm ∧ XC E st₀ t ∧ t.heap[q]? = some ce ∧ ce.vm = .none ∧ s.vm.findClass E = some ce.cls ∧
      Steps p.tables e below (T.setTop g) ((T'.setTop { g with stack := rest }).pushFrame (.throwing q)))
def vx_X {S : Type} (px : S → Prop) (B : String → S → State → Prop) (A : Nat → Prop) : String → State → State → Prop := fun E st t => ∃ u : S, px u ∧ B E u t ∧ va_F A st t
section Runs
variable {p : Program} {l : Launch} {e : Env} {R : Room} {s : State} {m : MethodId} {args : Array Value} {below : List Frame} {meth : Method} {c : Code} {H : Heap} {locs : List Loc} {cells slots : Nat}
variable {y : MethodName} {bytes cc : ByteArray} {maxL nL mc ms n index : Nat} {ret : Option FieldType} {ws : List Cond} {rm : Room} {Pc : Array Value → State → Prop} {Qc : Array Value → State → Outcome → State → Prop} {XC : String → State → State → Prop} {free : Addr → Prop} {Ts : List Cond} {own C : String} {b : Addr} {As rest : List Value} {g : JFrame}
theorem vx_callBack (cb : CallB R s args own index y bytes maxL ret ws rm mc ms n) (hM : vx_Met l y ws rm Pc Qc XC mc ms free) (hbl : FrameBlind Pc) : vx_Back l R p e below s args y 3 8 (PreOf R mc ms Pc) (PostOf Qc mc ms free) (vx_Post XC mc ms free) := by
  obtain ⟨hrc, hrs, hfr, hlo, hws, hcw, -, hini, -⟩ := cb
  exact vx_back (bytes := bytes) (maxL := maxL) (ret := ret) hM hbl hrc hrs hfr hlo hws hcw (fun a' U hW => word_at hW (Or.inl (by first | rfl | simp [Cond.onTables, Cond.keeps, Cond.steady])) hini)
theorem vx_runV (S : CallFix p m c cc nL s args Ts own) (hM : vx_Met l y ws rm Pc Qc XC mc ms free) (cw : CallW R s args own C index y bytes maxL ret ws rm mc ms n) (hp : PreV s H C b Pc As)
    (hg : g.method = m) (hn : As.length = n) (hsize : g.locals.size = nL) (hstack : g.stack = As.reverse ++ .ref b :: rest) (hW : 2 * g.monitorRoom + (rest.map fun v => v.category).sum ≤ 8) (hdg : decode cc g.pc = .ok (.invokevirtual index, 3)) (hf : cells + mc ≤ R.cells ∧ slots + ms ≤ R.slots) :
    vx_Run p l e R s m args below meth c H locs cells slots mc ms g rest (Qc (Value.ref b :: As).toArray) XC free := by
  have hK : vx_Back l R p e below s args y 3 8 (PreOf R mc ms Pc) (PostOf Qc mc ms free) (vx_Post XC mc ms free) := vx_callBack cw.1 hM hp.1
  obtain ⟨⟨-, -, -, -, -, -, hcode, -, hy, hlen, hl⟩, hin, hse⟩ := cw
  obtain ⟨hx, hb, hml, ho, -⟩ := S
  obtain ⟨-, ⟨cellB, hcB, hoB, hclB⟩, hPc⟩ := hp
  intro T hT X
  rcases vx_callV X hx (C := C) (bytes := bytes) (maxL := maxL) (ret := ret) ho hl hin hse hcode hy hK (by rw [hT]; exact hcB) hoB hclB hg (hsize.trans hml.symm) (argsL := As) (rest := rest) (fun sig h => hn.trans (hlen sig h)) hstack hW (by rw [hb]; exact hdg)
    (fun vm₁ hW₁ => ⟨hf.1, hf.2, hPc (T.setVm vm₁) hT hW₁⟩) with ⟨v, vm₁, ⟨U', l2, c2, s2⟩, hW₁, X', ⟨g', mk, t, L, e1, e2, hq, h1, hL, h2, h3⟩, st⟩ | ⟨q, vm₁, ⟨U', l2, c2, s2⟩, hW₁, X', ⟨g', mk, t, L, E, ce, e1, e2, hq, hce, hcv, hcl, h1, hL, h2, h3⟩, st⟩
  · dsimp only [Pt.U, Pt.locs, Pt.cells, Pt.slots] at X' e1 e2 h1 h2 h3 st
    subst h1; subst h2; subst h3
    exact Or.inl ⟨v, (T.setVm vm₁).calling g' mk (Value.ref b :: As).toArray, t, U', L, hT, X', hL, e1, e2, hq, st⟩
  · dsimp only [Pt.U, Pt.locs, Pt.cells, Pt.slots] at X' e1 e2 h1 h2 h3 st hcl
    subst h1; subst h2; subst h3
    exact Or.inr ⟨q, (T.setVm vm₁).calling g' mk (Value.ref b :: As).toArray, t, U', L, E, ce, hT, X', hL, e1, e2, hq, hce, hcv, vx_cls hW₁ hcl, st⟩
theorem vx_runS (S : CallFix p m c cc nL s args Ts own) (hM : vx_Met l y ws rm Pc Qc XC mc ms free) (cw : CallB R s args own index y bytes maxL ret ws rm mc ms n ∧ (Cond.static y).before args s = true) (hp : PreS s H Pc As)
    (hg : g.method = m) (hn : As.length = n) (hsize : g.locals.size = nL) (hstack : g.stack = As.reverse ++ rest) (hW : 2 * g.monitorRoom + (rest.map fun v => v.category).sum ≤ 8) (hdg : decode cc g.pc = .ok (.invokestatic index, 3)) (hf : cells + mc ≤ R.cells ∧ slots + ms ≤ R.slots) :
    vx_Run p l e R s m args below meth c H locs cells slots mc ms g rest (Qc As.toArray) XC free := by
  have hK : vx_Back l R p e below s args y 3 8 (PreOf R mc ms Pc) (PostOf Qc mc ms free) (vx_Post XC mc ms free) := vx_callBack cw.1 hM hp.1
  obtain ⟨⟨-, -, -, -, -, -, hcode, hini, hy, hlen, hl⟩, hstt⟩ := cw
  obtain ⟨hx, hb, hml, ho, -⟩ := S
  intro T hT X
  rcases vx_callS X hx (bytes := bytes) (maxL := maxL) (ret := ret) ho hl hstt hini hcode hy hK hg (hsize.trans hml.symm) (argsL := As) (rest := rest) (fun sig h => hn.trans (hlen sig h)) hstack hW (by rw [hb]; exact hdg)
    (fun vm₁ hW₁ => ⟨hf.1, hf.2, hp.2 (T.setVm vm₁) hT hW₁⟩) with ⟨v, vm₁, ⟨U', l2, c2, s2⟩, hW₁, X', ⟨g', mk, t, L, e1, e2, hq, h1, hL, h2, h3⟩, st⟩ | ⟨q, vm₁, ⟨U', l2, c2, s2⟩, hW₁, X', ⟨g', mk, t, L, E, ce, e1, e2, hq, hce, hcv, hcl, h1, hL, h2, h3⟩, st⟩
  · dsimp only [Pt.U, Pt.locs, Pt.cells, Pt.slots] at X' e1 e2 h1 h2 h3 st
    subst h1; subst h2; subst h3
    exact Or.inl ⟨v, (T.setVm vm₁).calling g' mk As.toArray, t, U', L, hT, X', hL, e1, e2, hq, st⟩
  · dsimp only [Pt.U, Pt.locs, Pt.cells, Pt.slots] at X' e1 e2 h1 h2 h3 st hcl
    subst h1; subst h2; subst h3
    exact Or.inr ⟨q, (T.setVm vm₁).calling g' mk As.toArray, t, U', L, E, ce, hT, X', hL, e1, e2, hq, hce, hcv, vx_cls hW₁ hcl, st⟩
end Runs
section Rows
variable {p : Program} {l : Launch} {e : Env} {R : Room} {s : State} {m : MethodId} {args : Array Value} {below : List Frame} {meth : Method} {c : Code} {H : Heap} {locs : List Loc} {cells slots : Nat} {Q : State → Prop}
variable {mc ms : Nat} {free : Addr → Prop} {A0 A1 : Nat → Prop} {H0 : Heap} {a : Array Value} {pc : Nat} {ls : Array Slot} {st0 rest : List Value}
theorem vx_keep {st₀ t T' : State} {L : List Loc} (h0 : st₀.heap = H) (e1 : T'.heap = t.heap) (hS : va_S A0 H0 H locs) (hA : ∀ q, q < H.size → A1 q → A0 q) (hf : ∀ q, free q → A0 q) (hL : ∀ q ∈ L, free q.base) (hF : va_F A1 st₀ t) :
    H.size ≤ T'.heap.size ∧ (∀ q : Nat, q < H.size → ¬ A1 q → T'.heap[q]? = H[q]?) ∧ va_S A0 H0 T'.heap (locs ++ L) := by
  obtain ⟨hz, hk⟩ := hF
  rw [h0] at hz hk
  exact ⟨by rw [e1]; exact hz, fun q h1 h2 => by rw [e1]; exact hk q h1 h2,
    ⟨Nat.le_trans hS.1 (by rw [e1]; exact hz), fun q h1 h2 => by rw [e1, hk q (Nat.lt_of_lt_of_le h1 hS.1) (fun z => h2 (hA q (Nat.lt_of_lt_of_le h1 hS.1) z))]; exact hS.2.1 q h1 h2, fun q hq => by
      rcases List.mem_append.mp hq with h | h
      · exact hS.2.2 q h
      · exact hf _ (hL q h)⟩⟩
theorem vx_calli {S SX : Type} {post : Int32 → S → Prop} {px : SX → Prop} {B : S → State → Prop} {BX : String → SX → State → Prop} {AX : Nat → Prop} (hr : vx_Run p l e R s m args below meth c H locs cells slots mc ms (F0 m pc ls st0) rest (va_Qi post B A1 a) (vx_X px BX AX) free) (hS : va_S A0 H0 H locs) (hA : ∀ q, q < H.size → A1 q → A0 q) (hf : ∀ q, free q → A0 q) (hAX : ∀ q, q < H.size → AX q → A0 q)
    (kx : ∀ (E : String) (ce : Cell) (q9 : Addr) (u : SX) (t : State) (H1 : Heap) (locs1 : List Loc), t.heap = H1 → s.vm.Alike t.vm → px u → BX E u t → H.size ≤ H1.size → (∀ q : Nat, q < H.size → ¬ AX q → H1[q]? = H[q]?) → va_S A0 H0 H1 locs1 → H1[q9]? = some ce → ce.vm = .none → s.vm.findClass E = some ce.cls → vx_W p l e R s m args below meth c H1 locs1 (cells + mc) (slots + ms) Q (F0 m pc ls rest) q9)
    (kk : ∀ (r : Int32) (u : S) (t : State) (H1 : Heap) (locs1 : List Loc), t.heap = H1 → s.vm.Alike t.vm → post r u → B u t → H.size ≤ H1.size → (∀ q : Nat, q < H.size → ¬ A1 q → H1[q]? = H[q]?) → va_S A0 H0 H1 locs1 → W p l e R s m args below meth c H1 locs1 (cells + mc) (slots + ms) Q (F0 m (pc + 3) ls (.int r :: rest))) : W p l e R s m args below meth c H locs cells slots Q (F0 m pc ls st0) := by
  intro T hT X
  rcases hr T hT X with ⟨v, st₀, t, T', L, h0, X', hL, e1, e2, ⟨⟨r, u, hv, hp, hb⟩, hF⟩, st⟩ | ⟨q, st₀, t, T', L, E, ce, h0, X', hL, e1, e2, ⟨u, hp, hb, hF⟩, hce, hcv, hcl, st⟩
  · cases hv
    obtain ⟨k1, k2, k3⟩ := vx_keep h0 e1 hS hA hf hL hF
    obtain ⟨t2, a1, b1⟩ := kk r u t T'.heap (locs ++ L) e1.symm (by rw [← e2]; exact X'.warmed.alike) hp hb k1 k2 k3 T' rfl X'
    exact ⟨t2, st t2 a1, b1⟩
  · obtain ⟨k1, k2, k3⟩ := vx_keep h0 e1 hS hAX hf hL hF
    obtain ⟨t2, a1, b1⟩ := kx E ce q u t T'.heap (locs ++ L) e1.symm (by rw [← e2]; exact X'.warmed.alike) hp hb k1 k2 k3 (by rw [e1]; exact hce) hcv hcl T' rfl X'
    exact ⟨t2, st.trans a1, b1⟩
theorem vx_calll {S SX : Type} {post : Int64 → S → Prop} {px : SX → Prop} {B : S → State → Prop} {BX : String → SX → State → Prop} {AX : Nat → Prop} (hr : vx_Run p l e R s m args below meth c H locs cells slots mc ms (F0 m pc ls st0) rest (va_Ql post B A1 a) (vx_X px BX AX) free) (hS : va_S A0 H0 H locs) (hA : ∀ q, q < H.size → A1 q → A0 q) (hf : ∀ q, free q → A0 q) (hAX : ∀ q, q < H.size → AX q → A0 q)
    (kx : ∀ (E : String) (ce : Cell) (q9 : Addr) (u : SX) (t : State) (H1 : Heap) (locs1 : List Loc), t.heap = H1 → s.vm.Alike t.vm → px u → BX E u t → H.size ≤ H1.size → (∀ q : Nat, q < H.size → ¬ AX q → H1[q]? = H[q]?) → va_S A0 H0 H1 locs1 → H1[q9]? = some ce → ce.vm = .none → s.vm.findClass E = some ce.cls → vx_W p l e R s m args below meth c H1 locs1 (cells + mc) (slots + ms) Q (F0 m pc ls rest) q9)
    (kk : ∀ (r : Int64) (u : S) (t : State) (H1 : Heap) (locs1 : List Loc), t.heap = H1 → s.vm.Alike t.vm → post r u → B u t → H.size ≤ H1.size → (∀ q : Nat, q < H.size → ¬ A1 q → H1[q]? = H[q]?) → va_S A0 H0 H1 locs1 → W p l e R s m args below meth c H1 locs1 (cells + mc) (slots + ms) Q (F0 m (pc + 3) ls (.long r :: rest))) : W p l e R s m args below meth c H locs cells slots Q (F0 m pc ls st0) := by
  intro T hT X
  rcases hr T hT X with ⟨v, st₀, t, T', L, h0, X', hL, e1, e2, ⟨⟨r, u, hv, hp, hb⟩, hF⟩, st⟩ | ⟨q, st₀, t, T', L, E, ce, h0, X', hL, e1, e2, ⟨u, hp, hb, hF⟩, hce, hcv, hcl, st⟩
  · cases hv
    obtain ⟨k1, k2, k3⟩ := vx_keep h0 e1 hS hA hf hL hF
    obtain ⟨t2, a1, b1⟩ := kk r u t T'.heap (locs ++ L) e1.symm (by rw [← e2]; exact X'.warmed.alike) hp hb k1 k2 k3 T' rfl X'
    exact ⟨t2, st t2 a1, b1⟩
  · obtain ⟨k1, k2, k3⟩ := vx_keep h0 e1 hS hAX hf hL hF
    obtain ⟨t2, a1, b1⟩ := kx E ce q u t T'.heap (locs ++ L) e1.symm (by rw [← e2]; exact X'.warmed.alike) hp hb k1 k2 k3 (by rw [e1]; exact hce) hcv hcl T' rfl X'
    exact ⟨t2, st.trans a1, b1⟩
theorem vx_callf {S SX : Type} {post : UInt32 → S → Prop} {px : SX → Prop} {B : S → State → Prop} {BX : String → SX → State → Prop} {AX : Nat → Prop} (hr : vx_Run p l e R s m args below meth c H locs cells slots mc ms (F0 m pc ls st0) rest (va_Qf post B A1 a) (vx_X px BX AX) free) (hS : va_S A0 H0 H locs) (hA : ∀ q, q < H.size → A1 q → A0 q) (hf : ∀ q, free q → A0 q) (hAX : ∀ q, q < H.size → AX q → A0 q)
    (kx : ∀ (E : String) (ce : Cell) (q9 : Addr) (u : SX) (t : State) (H1 : Heap) (locs1 : List Loc), t.heap = H1 → s.vm.Alike t.vm → px u → BX E u t → H.size ≤ H1.size → (∀ q : Nat, q < H.size → ¬ AX q → H1[q]? = H[q]?) → va_S A0 H0 H1 locs1 → H1[q9]? = some ce → ce.vm = .none → s.vm.findClass E = some ce.cls → vx_W p l e R s m args below meth c H1 locs1 (cells + mc) (slots + ms) Q (F0 m pc ls rest) q9)
    (kk : ∀ (r : UInt32) (u : S) (t : State) (H1 : Heap) (locs1 : List Loc), t.heap = H1 → s.vm.Alike t.vm → post r u → B u t → H.size ≤ H1.size → (∀ q : Nat, q < H.size → ¬ A1 q → H1[q]? = H[q]?) → va_S A0 H0 H1 locs1 → W p l e R s m args below meth c H1 locs1 (cells + mc) (slots + ms) Q (F0 m (pc + 3) ls (.float r :: rest))) : W p l e R s m args below meth c H locs cells slots Q (F0 m pc ls st0) := by
  intro T hT X
  rcases hr T hT X with ⟨v, st₀, t, T', L, h0, X', hL, e1, e2, ⟨⟨r, u, hv, hp, hb⟩, hF⟩, st⟩ | ⟨q, st₀, t, T', L, E, ce, h0, X', hL, e1, e2, ⟨u, hp, hb, hF⟩, hce, hcv, hcl, st⟩
  · cases hv
    obtain ⟨k1, k2, k3⟩ := vx_keep h0 e1 hS hA hf hL hF
    obtain ⟨t2, a1, b1⟩ := kk r u t T'.heap (locs ++ L) e1.symm (by rw [← e2]; exact X'.warmed.alike) hp hb k1 k2 k3 T' rfl X'
    exact ⟨t2, st t2 a1, b1⟩
  · obtain ⟨k1, k2, k3⟩ := vx_keep h0 e1 hS hAX hf hL hF
    obtain ⟨t2, a1, b1⟩ := kx E ce q u t T'.heap (locs ++ L) e1.symm (by rw [← e2]; exact X'.warmed.alike) hp hb k1 k2 k3 (by rw [e1]; exact hce) hcv hcl T' rfl X'
    exact ⟨t2, st.trans a1, b1⟩
theorem vx_calld {S SX : Type} {post : UInt64 → S → Prop} {px : SX → Prop} {B : S → State → Prop} {BX : String → SX → State → Prop} {AX : Nat → Prop} (hr : vx_Run p l e R s m args below meth c H locs cells slots mc ms (F0 m pc ls st0) rest (va_Qd post B A1 a) (vx_X px BX AX) free) (hS : va_S A0 H0 H locs) (hA : ∀ q, q < H.size → A1 q → A0 q) (hf : ∀ q, free q → A0 q) (hAX : ∀ q, q < H.size → AX q → A0 q)
    (kx : ∀ (E : String) (ce : Cell) (q9 : Addr) (u : SX) (t : State) (H1 : Heap) (locs1 : List Loc), t.heap = H1 → s.vm.Alike t.vm → px u → BX E u t → H.size ≤ H1.size → (∀ q : Nat, q < H.size → ¬ AX q → H1[q]? = H[q]?) → va_S A0 H0 H1 locs1 → H1[q9]? = some ce → ce.vm = .none → s.vm.findClass E = some ce.cls → vx_W p l e R s m args below meth c H1 locs1 (cells + mc) (slots + ms) Q (F0 m pc ls rest) q9)
    (kk : ∀ (r : UInt64) (u : S) (t : State) (H1 : Heap) (locs1 : List Loc), t.heap = H1 → s.vm.Alike t.vm → post r u → B u t → H.size ≤ H1.size → (∀ q : Nat, q < H.size → ¬ A1 q → H1[q]? = H[q]?) → va_S A0 H0 H1 locs1 → W p l e R s m args below meth c H1 locs1 (cells + mc) (slots + ms) Q (F0 m (pc + 3) ls (.double r :: rest))) : W p l e R s m args below meth c H locs cells slots Q (F0 m pc ls st0) := by
  intro T hT X
  rcases hr T hT X with ⟨v, st₀, t, T', L, h0, X', hL, e1, e2, ⟨⟨r, u, hv, hp, hb⟩, hF⟩, st⟩ | ⟨q, st₀, t, T', L, E, ce, h0, X', hL, e1, e2, ⟨u, hp, hb, hF⟩, hce, hcv, hcl, st⟩
  · cases hv
    obtain ⟨k1, k2, k3⟩ := vx_keep h0 e1 hS hA hf hL hF
    obtain ⟨t2, a1, b1⟩ := kk r u t T'.heap (locs ++ L) e1.symm (by rw [← e2]; exact X'.warmed.alike) hp hb k1 k2 k3 T' rfl X'
    exact ⟨t2, st t2 a1, b1⟩
  · obtain ⟨k1, k2, k3⟩ := vx_keep h0 e1 hS hAX hf hL hF
    obtain ⟨t2, a1, b1⟩ := kx E ce q u t T'.heap (locs ++ L) e1.symm (by rw [← e2]; exact X'.warmed.alike) hp hb k1 k2 k3 (by rw [e1]; exact hce) hcv hcl T' rfl X'
    exact ⟨t2, st.trans a1, b1⟩
theorem vx_callv {S SX : Type} {post : S → Prop} {px : SX → Prop} {B : S → State → Prop} {BX : String → SX → State → Prop} {AX : Nat → Prop} (hr : vx_Run p l e R s m args below meth c H locs cells slots mc ms (F0 m pc ls st0) rest (va_Qv post B A1 a) (vx_X px BX AX) free) (hS : va_S A0 H0 H locs) (hA : ∀ q, q < H.size → A1 q → A0 q) (hf : ∀ q, free q → A0 q) (hAX : ∀ q, q < H.size → AX q → A0 q)
    (kx : ∀ (E : String) (ce : Cell) (q9 : Addr) (u : SX) (t : State) (H1 : Heap) (locs1 : List Loc), t.heap = H1 → s.vm.Alike t.vm → px u → BX E u t → H.size ≤ H1.size → (∀ q : Nat, q < H.size → ¬ AX q → H1[q]? = H[q]?) → va_S A0 H0 H1 locs1 → H1[q9]? = some ce → ce.vm = .none → s.vm.findClass E = some ce.cls → vx_W p l e R s m args below meth c H1 locs1 (cells + mc) (slots + ms) Q (F0 m pc ls rest) q9)
    (kk : ∀ (u : S) (t : State) (H1 : Heap) (locs1 : List Loc), t.heap = H1 → s.vm.Alike t.vm → post u → B u t → H.size ≤ H1.size → (∀ q : Nat, q < H.size → ¬ A1 q → H1[q]? = H[q]?) → va_S A0 H0 H1 locs1 → W p l e R s m args below meth c H1 locs1 (cells + mc) (slots + ms) Q (F0 m (pc + 3) ls (rest))) : W p l e R s m args below meth c H locs cells slots Q (F0 m pc ls st0) := by
  intro T hT X
  rcases hr T hT X with ⟨v, st₀, t, T', L, h0, X', hL, e1, e2, ⟨⟨u, hv, hp, hb⟩, hF⟩, st⟩ | ⟨q, st₀, t, T', L, E, ce, h0, X', hL, e1, e2, ⟨u, hp, hb, hF⟩, hce, hcv, hcl, st⟩
  · cases hv
    obtain ⟨k1, k2, k3⟩ := vx_keep h0 e1 hS hA hf hL hF
    obtain ⟨t2, a1, b1⟩ := kk u t T'.heap (locs ++ L) e1.symm (by rw [← e2]; exact X'.warmed.alike) hp hb k1 k2 k3 T' rfl X'
    exact ⟨t2, st t2 a1, b1⟩
  · obtain ⟨k1, k2, k3⟩ := vx_keep h0 e1 hS hAX hf hL hF
    obtain ⟨t2, a1, b1⟩ := kx E ce q u t T'.heap (locs ++ L) e1.symm (by rw [← e2]; exact X'.warmed.alike) hp hb k1 k2 k3 (by rw [e1]; exact hce) hcv hcl T' rfl X'
    exact ⟨t2, st.trans a1, b1⟩
/-- caught by the row x of this method's table; the rows ahead don't take it -/
theorem vx_catch {own name : String} {E : String} {ce : Cell} {q : Addr} (hown : s.vm.findClass own = some m.cls) (pre : List ExceptionTableEntry) (x : ExceptionTableEntry) (suf : List ExceptionTableEntry) (hsplit : c.exceptionTable.toList = pre ++ x :: suf)
    (hpass : ∀ z ∈ pre, covers z pc = false ∨ (z.catchType ≠ 0 ∧ ∃ nm : String, (Cond.classLink own z.catchType nm).before args s = true ∧ va_Nc E nm s)) (hx : covers x pc = true) (h0 : x.catchType ≠ 0)
    (hlink : (Cond.classLink own x.catchType name).before args s = true) (hcast : (Cond.castable E name).before args s = true) (hcell : H[q]? = some ce) (hv : ce.vm = .none) (hcl : s.vm.findClass E = some ce.cls)
    (kk : W p l e R s m args below meth c H locs cells slots Q (F0 m x.handlerPc ls [.ref q])) : vx_W p l e R s m args below meth c H locs cells slots Q (F0 m pc ls rest) q := by
  intro T hT X
  have hpl : e.platform.magicAccessors = ({} : Platform).magicAccessors := by rw [X.admits.platform]
  obtain ⟨c3, c4, hc3, hc4, hasg⟩ := Cond.castable_spec hcast
  cases Option.some.inj (hc3.symm.trans hcl)
  obtain ⟨c5, hc5, hcl5⟩ := Cond.classLink_spec hown hlink e.platform hpl
  cases Option.some.inj (hc4.symm.trans hc5)
  obtain ⟨vm', X', st⟩ := X.thenCaughtThrough q (g := F0 m pc ls rest) rfl (Steps.refl _) (by rw [hT]; exact hcell) (by rw [hv]; rfl) (by obtain ⟨k9, h9, -⟩ := Vm.findClass_spec hcl; exact ⟨k9, h9⟩) pre x suf hsplit
    (fun z hz => by
      rcases hpass z hz with h | ⟨hz0, nm, hl1, hn1⟩
      · exact Or.inl h
      · obtain ⟨c6, hc6, hcl6⟩ := Cond.classLink_spec hown hl1 e.platform hpl
        obtain ⟨a8, b8, h1, h2, h3⟩ := hn1
        cases Option.some.inj (h1.symm.trans hcl)
        cases Option.some.inj (h2.symm.trans hc6)
        exact Or.inr ⟨hz0, _, hcl6, h3⟩) hx (Or.inr ⟨h0, c4, hcl5, hasg⟩)
  obtain ⟨t, a1, b1⟩ := kk (T.setVm vm') hT X'
  exact ⟨t, st.trans a1, b1⟩
end Rows
section Ends
variable {p : Program} {l : Launch} {e : Env} {R : Room} {s : State} {m : MethodId} {args : Array Value} {below : List Frame} {meth : Method} {c : Code} {H : Heap} {locs : List Loc} {cells slots : Nat} {Q : State → Prop}
variable {mc ms : Nat} {free : Addr → Prop} {A0 A1 : Nat → Prop} {H0 : Heap} {a : Array Value} {ls : Array Slot} {st0 rest : List Value}
variable {Qc : Array Value → State → Outcome → State → Prop} {XC : String → State → State → Prop}
/-- what a body that may throw owes at its end -/
def vx_MQ (below : List Frame) (Qc : Array Value → State → Outcome → State → Prop) (XC : String → State → State → Prop) (a : Array Value) (s : State) (mc ms : Nat) (free : Addr → Prop) : State → Prop := fun t =>
  ∃ o, t.status = .running ∧ Ended t below o ∧ vx_Q Qc XC mc ms free a s o t
theorem vx_ret {g : JFrame} {mc ms : Nat} (k : W p l e R s m args below meth c H locs cells slots (MQ below Qc args s mc ms free) g) : W p l e R s m args below meth c H locs cells slots (vx_MQ below Qc XC args s mc ms free) g := by
  intro T hT X
  obtain ⟨t, a1, o, b1, b2, b3, b4⟩ := k T hT X
  exact ⟨t, a1, o, b1, b2, Or.inl ⟨b3, b4⟩⟩
/-- not caught here: it goes on to the caller -/
theorem vx_widen {g : JFrame} {q : Addr} {k n : Nat} (h1 : cells ≤ k) (h2 : slots ≤ n) (kk : vx_W p l e R s m args below meth c H locs k n Q g q) : vx_W p l e R s m args below meth c H locs cells slots Q g q := fun T hT X => kk T hT (stand_widen X h1 h2)
theorem vx_out {pc : Nat} {E : String} {ce : Cell} {q : Addr} {mc ms : Nat} (hout : ∀ x ∈ c.exceptionTable.toList, covers x pc = false) (hlocks : meth.locks = false) (hcell : H[q]? = some ce) (hv : ce.vm = .none) (hcl : s.vm.findClass E = some ce.cls)
    (hx : ∀ t : State, t.heap = H → s.vm.Alike t.vm → XC E s t) (hf : ∀ z ∈ locs, free z.base) (hc : cells ≤ mc) (hs : slots ≤ ms) :
    vx_W p l e R s m args below meth c H locs cells slots (vx_MQ below Qc XC args s mc ms free) (F0 m pc ls rest) q := by
  intro T hT X
  obtain ⟨st1, hrun, hend, hW, hsm⟩ := X.leaveThrown q (g := F0 m pc ls rest) rfl rfl rfl hout hlocks
  have hcell9 : (T.setFrames (.throwing q :: below)).heap[q]? = some ce := by
    show T.heap[q]? = some ce
    rw [hT]; exact hcell
  exact ⟨_, st1, .threw q, hrun, hend, Or.inr ⟨q, rfl, E, ce, locs, hx _ hT hW.alike, hcell9, hv, hcl, hW, hsm.mono hc hs, hf⟩⟩
theorem vx_frame {U : State} {k n : Nat} (h : s.sameButNew ({ U with vm := s.vm } : State) locs k n) : s.heap.size ≤ U.heap.size ∧ ∀ q : Nat, q < s.heap.size → (∀ z ∈ locs, z.base ≠ q) → U.heap[q]? = s.heap[q]? := by
  obtain ⟨-, h2, -, -, -, h6⟩ := h
  refine ⟨h2, fun q hq hz => ?_⟩
  obtain ⟨c9, e1, e2, e3, e4⟩ := h6 q _ (Array.getElem?_eq_getElem hq)
  have hs : c9.slots = (s.heap[q]).slots := Array.ext_getElem? fun i => e4 i fun hm => hz _ hm rfl
  have h9 : c9 = s.heap[q] := by
    rw [hs] at e2
    exact e2
  have e5 : U.heap[q]? = some c9 := e1
  rw [e5, h9, Array.getElem?_eq_getElem hq]
/-- the words of a throw but the four that speak of the heap -/
def vx_no (w : Cond) : Bool := decide (w ≠ .isRef (.static Bundle.tN "UNASSIGNED_STACK" Bundle.steD)) && decide (w ≠ .isRef (.static Bundle.tN "SUPPRESSED_SENTINEL" Bundle.listD)) && decide (w ≠ .laysStatic Bundle.tN "UNASSIGNED_STACK" Bundle.steD) && decide (w ≠ .laysStatic Bundle.tN "SUPPRESSED_SENTINEL" Bundle.listD)
def vx_at0 (own : String) (ic : Nat) (X : String) (names : List String) : List Cond := (Bundle.ownAtoms0 own ic X names).filter vx_no
def vx_atS (own : String) (ic : Nat) (X : String) (names : List String) : List Cond := (Bundle.ownAtoms own ic X names).filter vx_no
/-- a word that the tables alone decide, or a good one -/
def vx_ot (w : Cond) : Bool := w.onTables || goodWord w
theorem vx_ot_at {args a' : Array Value} {s U : State} {w : Cond} (hW : s.WarmedH U.vm) (hvm : s.vm = U.vm) (hg : vx_ot w = true) (h : w.before args s = true) : w.before a' U = true := by
  simp only [vx_ot, Bool.or_eq_true] at hg
  rcases hg with hg | hg
  · exact va_tabs hg hvm h
  · exact word_at hW (good_of_word hg) h
/-- a list's words: the good ones out of the method's own list, the others by premises of their own -/
theorem vx_hat {args : Array Value} {s : State} {L B : List Cond} (h1 : ∀ w ∈ L.filter goodWord, w.before args s = true) (h2 : ∀ w ∈ L.filter (fun w => !goodWord w), w ∈ B) (h3 : ∀ w ∈ B, w.before args s = true) : ∀ w ∈ L, w.before args s = true := by
  intro w hw
  by_cases g : goodWord w = true
  · exact h1 w (List.mem_filter.mpr ⟨hw, g⟩)
  · refine h3 w (h2 w (List.mem_filter.mpr ⟨hw, ?_⟩))
    show (!goodWord w) = true
    cases hgw : goodWord w
    · rfl
    · exact absurd hgw g
theorem vx_c {args : Array Value} {s : State} {w : Cond} {B : List Cond} (h : w.before args s = true) (t : ∀ w ∈ B, w.before args s = true) : ∀ w' ∈ w :: B, w'.before args s = true := fun w' h' => (List.mem_cons.mp h').elim (fun e => by rw [e]; exact h) (t w')
theorem vx_n {args : Array Value} {s : State} : ∀ w ∈ ([] : List Cond), w.before args s = true := fun _ h => nomatch h
theorem vx_own {args : Array Value} {s : State} {L : List Cond} (h1 : ∀ w ∈ L.filter vx_no, w.before args s = true)
    (hU : (Cond.isRef (.static Bundle.tN "UNASSIGNED_STACK" Bundle.steD)).before args s = true) (hN : (Cond.isRef (.static Bundle.tN "SUPPRESSED_SENTINEL" Bundle.listD)).before args s = true)
    (lU : (Cond.laysStatic Bundle.tN "UNASSIGNED_STACK" Bundle.steD).before args s = true) (lN : (Cond.laysStatic Bundle.tN "SUPPRESSED_SENTINEL" Bundle.listD).before args s = true) : ∀ w ∈ L, w.before args s = true := by
  intro w hw
  by_cases e1 : w = .isRef (.static Bundle.tN "UNASSIGNED_STACK" Bundle.steD)
  · rw [e1]; exact hU
  · by_cases e2 : w = .isRef (.static Bundle.tN "SUPPRESSED_SENTINEL" Bundle.listD)
    · rw [e2]; exact hN
    · by_cases e3 : w = .laysStatic Bundle.tN "UNASSIGNED_STACK" Bundle.steD
      · rw [e3]; exact lU
      · by_cases e4 : w = .laysStatic Bundle.tN "SUPPRESSED_SENTINEL" Bundle.listD
        · rw [e4]; exact lN
        · exact h1 w (List.mem_filter.mpr ⟨hw, by unfold vx_no; rw [decide_eq_true e1, decide_eq_true e2, decide_eq_true e3, decide_eq_true e4]; rfl⟩)
/-- where a static field lies, its class's statics cell in H -/
def vx_L (C n d : String) (A : Nat → Prop) (U : State) (H : Heap) : Prop := ∃ (c : ClassId) (k : Class) (i : Nat) (f : Field) (a : Nat) (cell : Cell), U.vm.findClass C = some c ∧ U.fieldFound? C n d = some (c, k, i, f) ∧ f.isStatic = true ∧ k.statics = some a ∧ H[a]? = some cell ∧ cell.vm.isStatics = true ∧ cell.cls = c ∧ f.slot < cell.slots.size ∧ k.staticTypes[f.slot]? = some f.type ∧ ¬ A a
theorem vx_L.moved {C n d : String} {A : Nat → Prop} {u U : State} {H : Heap} (hvm : u.vm.Alike U.vm) (h : vx_L C n d A u H) : vx_L C n d A U H := by
  obtain ⟨c, k, i, f, a, cell, h1, h2, h3, h4, h5, h6, h7, h8, h9, h10⟩ := h
  obtain ⟨k', hi', he⟩ := State.fieldFound?_setVm hvm h2
  exact ⟨c, k', i, f, a, cell, by rw [hvm.findClass]; exact h1, hi', h3, by rw [he]; exact h4, h5, h6, h7, h8, by rw [he]; exact h9, h10⟩
theorem vx_L.kept {C n d : String} {A : Nat → Prop} {U : State} {H H1 : Heap} (h : vx_L C n d A U H) (hq : ∀ a : Nat, a < H.size → ¬ A a → H1[a]? = H[a]?) : vx_L C n d A U H1 := by
  obtain ⟨c, k, i, f, a, cell, h1, h2, h3, h4, h5, h6, h7, h8, h9, h10⟩ := h
  exact ⟨c, k, i, f, a, cell, h1, h2, h3, h4, by rw [hq a (Array.getElem?_eq_some_iff.mp h5).1 h10]; exact h5, h6, h7, h8, h9, h10⟩
theorem vx_L.narrow {C n d : String} {A B : Nat → Prop} {U : State} {H : Heap} (h : vx_L C n d A U H) (hAB : ∀ q, B q → A q) : vx_L C n d B U H := by
  obtain ⟨c, k, i, f, a, cell, h1, h2, h3, h4, h5, h6, h7, h8, h9, h10⟩ := h
  exact ⟨c, k, i, f, a, cell, h1, h2, h3, h4, h5, h6, h7, h8, h9, fun z => h10 (hAB _ z)⟩
theorem vx_L.word {C n d : String} {A : Nat → Prop} {s : State} {args : Array Value} (h : vx_L C n d A s s.heap) : (Cond.laysStatic C n d).before args s = true := by
  obtain ⟨c, k, i, f, a, cell, h1, h2, h3, h4, h5, h6, h7, h8, h9, -⟩ := h
  show (Cond.laysStatic C n d).holds args s none s [] = true
  exact Cond.laysStatic_of h1 h2 h3 h4 h5 h6 h7 h8 h9
/-- .. and what it holds: null or some reference -/
def vx_Zq (C n d : String) (A : Nat → Prop) (U : State) (H : Heap) : Prop := va_Zq C n d A U H ∧ vx_L C n d A U H
theorem vx_Zq.moved {C n d : String} {A : Nat → Prop} {u U : State} {H : Heap} (hvm : u.vm.Alike U.vm) (h : vx_Zq C n d A u H) : vx_Zq C n d A U H := ⟨va_Zq.moved hvm h.1, vx_L.moved hvm h.2⟩
theorem vx_Zq.kept {C n d : String} {A : Nat → Prop} {U : State} {H H1 : Heap} (h : vx_Zq C n d A U H) (hq : ∀ a : Nat, a < H.size → ¬ A a → H1[a]? = H[a]?) : vx_Zq C n d A U H1 := ⟨va_Zq.kept h.1 hq, vx_L.kept h.2 hq⟩
theorem vx_Zq.narrow {C n d : String} {A B : Nat → Prop} {U : State} {H : Heap} (h : vx_Zq C n d A U H) (hAB : ∀ q, B q → A q) : vx_Zq C n d B U H := ⟨va_Zq.narrow h.1 hAB, vx_L.narrow h.2 hAB⟩
theorem vx_Zqof {args : Array Value} {s : State} {C n d : String} {A : Nat → Prop} (hl : (Cond.laysStatic C n d).before args s = true) (hini : (Cond.initialized C).before args s = true) (h : (Cond.isRef (.static C n d)).before args s = true) (hA : ∀ a : Nat, a < s.heap.size → ¬ A a) : vx_Zq C n d A s s.heap := by
  refine ⟨va_Zqof hl hini h hA, ?_⟩
  obtain ⟨c, k, i, f, a, cell, h1, h2, h3, h4, h5, h6, h7, h8, h9⟩ := Cond.laysStatic_spec hl
  exact ⟨c, k, i, f, a, cell, h1, h2, h3, h4, h5, h6, h7, h8, h9, hA a (Array.getElem?_eq_some_iff.mp h5).1⟩
theorem vx_isRef {C n d : String} {v : Value} {A : Nat → Prop} {s : State} {args : Array Value} (h : va_Z C n d v A s s.heap) (hv : v.isRef = true) : (Cond.isRef (.static C n d)).before args s = true := by
  obtain ⟨cf, kf, fi, f, a, cell, h1, h2, h3, h4, h5, h6, h7, -⟩ := h
  have he : (Term.static C n d).eval args s none [] s = some v := by
    simp [Term.eval, State.fieldNamed?, h1, h2, h4, h5, h6, h7]
  simp only [Cond.before, Cond.holds, Cond.value, he]
  cases v <;> simp_all [Value.isRef]
theorem vx_isRefq {C n d : String} {A : Nat → Prop} {s : State} {args : Array Value} (h : va_Zq C n d A s s.heap) : (Cond.isRef (.static C n d)).before args s = true := by
  rcases h with h | ⟨t, h⟩
  · exact vx_isRef h rfl
  · exact vx_isRef h rfl
/-- the same frame, seen from here: as if the method were called anew in this heap -/
theorem vx_rebase {T : State} (X : Stand p l e R s m args below meth c T locs cells slots) {R' : Room} (hf : R'.frames ≤ R.frames) (hl : R'.locals ≤ R.locals) (hc : cells + R'.cells ≤ R.cells) (hs : slots + R'.slots ≤ R.slots) :
    Stand p l e R' ((T.setVm s.vm).setFrames (.invoking m args :: below)) m args below meth c T [] 0 0 := by
  have htop : (T.setVm s.vm).topJava?.isSome := X.here.top
  have hF : ((T.setVm s.vm).setFrames (.invoking m args :: below)).frames = .invoking m args :: below := State.frames_setFrames _ (State.cur_lt_of_top htop)
  obtain ⟨g₀, hg0⟩ := Option.isSome_iff_exists.mp htop
  obtain ⟨r, hr⟩ := State.topJava?_eq_some.mp hg0
  have hl9 : e.platform.stackLimits (T.setVm s.vm).me = e.platform.stackLimits s.me := X.limits
  have hb9 : (T.setVm s.vm).me.stackBytes = s.me.stackBytes := X.bytes
  refine ⟨X.admits, X.cas, X.clock, hF, ?_, X.hears, X.method, X.code, X.here, X.tail, X.warmed, ?_, ?_, ?_⟩
  · have h := X.room
    have hU : ((T.setVm s.vm).setFrames (.invoking m args :: below)).localsInUse = s.localsInUse := by
      rw [State.localsInUse_invoking hF (meth := meth) (c := c) X.method X.code, State.localsInUse_invoking X.frames X.method X.code]
    simp only [State.hasRoom, Bool.and_eq_true, decide_eq_true_eq] at h ⊢
    obtain ⟨⟨⟨⟨h1, h2, h3, h4, h5, h6⟩, h7⟩, h8⟩, h9⟩ := h
    rw [X.frames, List.length_cons] at h2 h3
    have q1 := X.heapSize
    have q2 := X.used
    simp only [hF, hU, List.length_cons, State.stackLimits_setFrames, State.stackBytes_setFrames, hl9, hb9]
    refine ⟨⟨⟨⟨by omega, by omega, by omega, by omega, by omega, h6⟩, ?_⟩, ?_⟩, X.book⟩
    · show T.heap.size + R'.cells ≤ e.platform.maxCells
      omega
    · show T.slotsUsed + R'.slots ≤ e.platform.maxSlots
      omega
  · rw [State.stackLimits_setFrames]; rfl
  · rw [State.stackBytes_setFrames]; rfl
  · refine ⟨?_, Nat.le_refl _, Nat.le_refl _, ?_, ?_, fun a c9 h9 => ⟨c9, h9, rfl, rfl, fun _ _ => rfl⟩⟩
    · obtain ⟨t, ht, -⟩ := State.frames_cons hr
      show T.setVm s.vm = { ((T.setVm s.vm).setFrames (.invoking m args :: below)).setFrames (T.setVm s.vm).frames with heap := T.heap, slotsUsed := T.slotsUsed }
      rw [State.setFrames_setFrames, State.setFrames_self ht]
      rfl
    · show T.slotsUsed = T.slotsUsed + ((T.heap.toList.drop T.heap.size).map (·.slots.size)).sum
      rw [List.drop_eq_nil_of_le (Nat.le_of_eq Array.length_toList)]
      rfl
    · show ((T.heap.toList.drop T.heap.size).map (·.slots.size)).sum ≤ 0
      rw [List.drop_eq_nil_of_le (Nat.le_of_eq Array.length_toList)]
      exact Nat.le_refl _
/-- 'throw new E()': new; dup; invokespecial; athrow -/
theorem vx_throw0 {cc : ByteArray} {pc : Nat} (hexec : p.tables.exec = Jvm.exec) (hb : c.code = cc) (hl : l.stackTraces = false) {own cls : String} {names : List String} {ik ic mc ms : Nat} {A : Nat → Prop}
    (hown : s.vm.findClass own = some m.cls) (hcls : Bundle.fit cls = true) (hnames : ∀ n ∈ names, Bundle.fit n = true)
    (hk : (Cond.classLink own ik cls).before args s = true) (hini : (Cond.initialized cls).before args s = true) (hat : ∀ w ∈ vx_at0 own ic cls names, w.before args s = true)
    (hgood : ∀ w ∈ Cond.classLink own ik cls :: Cond.initialized cls :: vx_at0 own ic cls names, vx_ot w = true)
    (hU : vx_Zq Bundle.tN "UNASSIGNED_STACK" Bundle.steD A s s.heap) (hN : vx_Zq Bundle.tN "SUPPRESSED_SENTINEL" Bundle.listD A s s.heap) (hS : va_S A s.heap H locs) (hsize : ls.size = c.maxLocals)
    (d0 : decode cc pc = .ok (.new ik, 3)) (d3 : decode cc (pc + 3) = .ok (.dup, 1)) (d4 : decode cc (pc + 4) = .ok (.invokespecial ic, 3)) (d7 : decode cc (pc + 7) = .ok (.athrow, 1))
    (hout : ∀ x ∈ c.exceptionTable.toList, covers x (pc + 7) = false)
    (hRframes : names.length + 3 < R.frames) (hRlocals : (rest.map fun v => v.category).sum + (13 * (names.length + 1) + 42) ≤ R.locals) (hRcells : cells + 1 ≤ R.cells) (hRslots : slots + 6 ≤ R.slots) (hlocks : meth.locks = false)
    (hx : ∀ t : State, s.vm.Alike t.vm → H.size ≤ t.heap.size → (∀ q : Nat, q < H.size → t.heap[q]? = H[q]?) → XC cls s t)
    (hf : ∀ z ∈ locs, free z.base) (hc : cells + 1 ≤ mc) (hs : slots + 6 ≤ ms) :
    W p l e R s m args below meth c H locs cells slots (vx_MQ below Qc XC args s mc ms free) (F0 m pc ls rest) := by
  intro T hT X
  have htr : e.platform.stackTraces = false := (show e.platform.stackTraces = l.stackTraces by rw [X.admits.platform]).trans hl
  have Y := vx_rebase X (R' := { frames := R.frames, locals := R.locals, cells := 1, slots := 6 }) (Nat.le_refl _) (Nat.le_refl _) hRcells hRslots
  obtain ⟨s', hA⟩ : ∃ z, z = (T.setVm s.vm).setFrames (.invoking m args :: below) := ⟨_, rfl⟩
  rw [← hA] at Y
  have hvm : s'.vm = s.vm := by rw [hA]; rfl
  have hhp : s'.heap = H := by rw [hA]; exact hT
  have hW0 : s.WarmedH s'.vm := by rw [hvm]; exact State.WarmedH.refl s
  have hat' : ∀ w ∈ vx_at0 own ic cls names, w.before args s' = true := fun w hw => vx_ot_at hW0 hvm.symm (hgood w (List.mem_cons_of_mem _ (List.mem_cons_of_mem _ hw))) (hat w hw)
  have hk' : (Cond.classLink own ik cls).before args s' = true := vx_ot_at hW0 hvm.symm (hgood _ List.mem_cons_self) hk
  have hini' : (Cond.initialized cls).before args s' = true := vx_ot_at hW0 hvm.symm (hgood _ (List.mem_cons_of_mem _ List.mem_cons_self)) hini
  have hU' : vx_Zq Bundle.tN "UNASSIGNED_STACK" Bundle.steD A s' s'.heap := by rw [hhp]; exact vx_Zq.moved hW0.alike (hU.kept hS.2.1)
  have hN' : vx_Zq Bundle.tN "SUPPRESSED_SENTINEL" Bundle.listD A s' s'.heap := by rw [hhp]; exact vx_Zq.moved hW0.alike (hN.kept hS.2.1)
  have h : ∀ w ∈ Bundle.ownAtoms0 own ic cls names, w.before args s' = true := vx_own hat' (vx_isRefq hU'.1) (vx_isRefq hN'.1) hU'.2.word hN'.2.word
  have hown' : s'.vm.findClass own = some m.cls := by rw [hvm]; exact hown
  have hins : (Cond.instantiable cls 6).before args s' = true := h _ (by simp [Bundle.ownAtoms0])
  obtain ⟨vm₁, cX, kX, hfX, hkX, -, -, X₁, st1⟩ := Y.newCold hexec (own := own) (C := cls) (index := ik) (n := 6) hown' hk' hins hini'
    (g := F0 m pc ls rest) rfl (by rw [hb]; exact d0) (Nat.le_refl _) (Nat.le_refl _)
  generalize hT1 : (T.setVm vm₁).pushCell { cls := cX, slots := kX.instanceTypes.map defaultValue, vm := .none } = T1 at X₁ st1
  have hcat : (Value.ref T.heap.size).category = 1 := rfl
  have hcellA : T1.heap[T.heap.size]? = some (freshCell cX kX) := by rw [← hT1]; exact State.heap_pushCell_size _ _
  have d3' : decode c.code (pc + 3) = .ok (.dup, 1) := by rw [hb]; exact d3
  obtain ⟨U, hsteps, hrun, hend, hW, hsame, ce, hce, hO⟩ := X₁.ctorThrow0 hexec htr (own := own) (cls := cls) (names := names) (ic := ic) hown' hcls hnames h (fun x hx => nomatch hx) hfX hkX hcellA (by rw [hhp, hT]; exact Nat.le_refl _)
    (g := { method := m, pc := pc + 4, locals := ls, stack := .ref T.heap.size :: .ref T.heap.size :: rest, locked := none }) rfl hsize rfl rfl (rest := rest) rfl
    (by rw [hb]; exact d4) (by rw [hb]; exact d7) hout hRframes (by simp only [List.map_cons, List.sum_cons, hcat]; omega) hlocks
  obtain ⟨f1, f2⟩ := vx_frame hsame
  rw [hhp] at f1 f2
  have hWs : s.WarmedH U.vm := State.WarmedH.trans hW0 hW
  have hcl : s.vm.findClass cls = some ce.cls := by
    have h9 := hO.cls
    rw [hvm] at h9
    exact h9
  have hall : s.sameButNew ({ U with vm := s.vm } : State) locs mc ms := by
    subst hA
    obtain ⟨e1, e2⟩ := hsame
    rw [State.setFrames_setFrames] at e1
    have h2 : (T.setVm s.vm).sameButNew ({ U with vm := s.vm } : State) [] (0 + 1) (0 + 6) := ⟨e1, e2⟩
    have h3 := X.same.trans h2
    rw [List.append_nil] at h3
    exact h3.mono hc hs
  refine ⟨U, ?_, .threw T.heap.size, hrun, hend, Or.inr ⟨T.heap.size, rfl, cls, ce, locs, hx U hWs.alike f1 (fun q hq => f2 q hq (fun z hz => nomatch hz)), hce, hO.vm, hcl, hWs, hall, hf⟩⟩
  refine st1 _ ?_
  show Steps p.tables e below (T1.setTop { method := m, pc := pc + 3, locals := ls, stack := .ref T.heap.size :: rest, locked := none }) _
  jvm_step X₁.here [X₁.here.top, hexec, d3', Value.category]
  exact hsteps
/-- 'throw new E("text")': new; dup; ldc; invokespecial; athrow -/
theorem vx_throwS {cc : ByteArray} {pc : Nat} (hexec : p.tables.exec = Jvm.exec) (hb : c.code = cc) (hl : l.stackTraces = false) {own cls text : String} {names : List String} {ik is ic mc ms sa : Nat} {A : Nat → Prop}
    (hown : s.vm.findClass own = some m.cls) (hcls : Bundle.fit cls = true) (hnames : ∀ n ∈ names, Bundle.fit n = true)
    (hk : (Cond.classLink own ik cls).before args s = true) (hini : (Cond.initialized cls).before args s = true) (hstr : vk_R own is text sa s) (hat : ∀ w ∈ vx_atS own ic cls names, w.before args s = true)
    (hgood : ∀ w ∈ Cond.classLink own ik cls :: Cond.initialized cls :: vx_atS own ic cls names, vx_ot w = true)
    (hU : vx_Zq Bundle.tN "UNASSIGNED_STACK" Bundle.steD A s s.heap) (hN : vx_Zq Bundle.tN "SUPPRESSED_SENTINEL" Bundle.listD A s s.heap) (hS : va_S A s.heap H locs) (hsize : ls.size = c.maxLocals)
    (d0 : decode cc pc = .ok (.new ik, 3)) (d3 : decode cc (pc + 3) = .ok (.dup, 1)) (d4 : decode cc (pc + 4) = .ok (.ldc is, 2)) (d6 : decode cc (pc + 6) = .ok (.invokespecial ic, 3)) (d9 : decode cc (pc + 9) = .ok (.athrow, 1))
    (hout : ∀ x ∈ c.exceptionTable.toList, covers x (pc + 9) = false)
    (hRframes : names.length + 3 < R.frames) (hRlocals : (rest.map fun v => v.category).sum + (13 * (names.length + 1) + 43) ≤ R.locals) (hRcells : cells + 1 ≤ R.cells) (hRslots : slots + 6 ≤ R.slots) (hlocks : meth.locks = false)
    (hx : ∀ t : State, s.vm.Alike t.vm → H.size ≤ t.heap.size → (∀ q : Nat, q < H.size → t.heap[q]? = H[q]?) → XC cls s t)
    (hf : ∀ z ∈ locs, free z.base) (hc : cells + 1 ≤ mc) (hs : slots + 6 ≤ ms) :
    W p l e R s m args below meth c H locs cells slots (vx_MQ below Qc XC args s mc ms free) (F0 m pc ls rest) := by
  intro T hT X
  have htr : e.platform.stackTraces = false := (show e.platform.stackTraces = l.stackTraces by rw [X.admits.platform]).trans hl
  have Y := vx_rebase X (R' := { frames := R.frames, locals := R.locals, cells := 1, slots := 6 }) (Nat.le_refl _) (Nat.le_refl _) hRcells hRslots
  obtain ⟨s', hA⟩ : ∃ z, z = (T.setVm s.vm).setFrames (.invoking m args :: below) := ⟨_, rfl⟩
  rw [← hA] at Y
  have hvm : s'.vm = s.vm := by rw [hA]; rfl
  have hhp : s'.heap = H := by rw [hA]; exact hT
  have hW0 : s.WarmedH s'.vm := by rw [hvm]; exact State.WarmedH.refl s
  have hat' : ∀ w ∈ vx_atS own ic cls names, w.before args s' = true := fun w hw => vx_ot_at hW0 hvm.symm (hgood w (List.mem_cons_of_mem _ (List.mem_cons_of_mem _ hw))) (hat w hw)
  have hk' : (Cond.classLink own ik cls).before args s' = true := vx_ot_at hW0 hvm.symm (hgood _ List.mem_cons_self) hk
  have hini' : (Cond.initialized cls).before args s' = true := vx_ot_at hW0 hvm.symm (hgood _ (List.mem_cons_of_mem _ List.mem_cons_self)) hini
  have hU' : vx_Zq Bundle.tN "UNASSIGNED_STACK" Bundle.steD A s' s'.heap := by rw [hhp]; exact vx_Zq.moved hW0.alike (hU.kept hS.2.1)
  have hN' : vx_Zq Bundle.tN "SUPPRESSED_SENTINEL" Bundle.listD A s' s'.heap := by rw [hhp]; exact vx_Zq.moved hW0.alike (hN.kept hS.2.1)
  have h : ∀ w ∈ Bundle.ownAtoms own ic cls names, w.before args s' = true := vx_own hat' (vx_isRefq hU'.1) (vx_isRefq hN'.1) hU'.2.word hN'.2.word
  have hown' : s'.vm.findClass own = some m.cls := by rw [hvm]; exact hown
  have hins : (Cond.instantiable cls 6).before args s' = true := h _ (by simp [Bundle.ownAtoms])
  obtain ⟨vm₁, cX, kX, hfX, hkX, -, -, X₁, st1⟩ := Y.newCold hexec (own := own) (C := cls) (index := ik) (n := 6) hown' hk' hins hini'
    (g := F0 m pc ls rest) rfl (by rw [hb]; exact d0) (Nat.le_refl _) (Nat.le_refl _)
  generalize hT1 : (T.setVm vm₁).pushCell { cls := cX, slots := kX.instanceTypes.map defaultValue, vm := .none } = T1 at X₁ st1
  have hcat : (Value.ref T.heap.size).category = 1 := rfl
  have hcellA : T1.heap[T.heap.size]? = some (freshCell cX kX) := by rw [← hT1]; exact State.heap_pushCell_size _ _
  have d3' : decode c.code (pc + 3) = .ok (.dup, 1) := by rw [hb]; exact d3
  have d4' : decode c.code (pc + 4) = .ok (.ldc is, 2) := by rw [hb]; exact d4
  have hstr' : vk_R own is text sa s' := vk_R.warm hW0 hstr
  obtain ⟨U, hsteps, hrun, hend, hW, hsame, ce, hce, hO⟩ := X₁.ctorThrowS hexec htr (own := own) (cls := cls) (names := names) (ic := ic) hown' hcls hnames h (fun x hx => nomatch hx) hfX hkX hcellA (by rw [hhp, hT]; exact Nat.le_refl _) (msg := .ref sa) rfl
    (g := { method := m, pc := pc + 6, locals := ls, stack := .ref sa :: .ref T.heap.size :: .ref T.heap.size :: rest, locked := none }) rfl hsize rfl rfl (rest := rest) rfl
    (by rw [hb]; exact d6) (by rw [hb]; exact d9) hout hRframes (by simp only [List.map_cons, List.sum_cons, hcat]; omega) hlocks
  obtain ⟨f1, f2⟩ := vx_frame hsame
  rw [hhp] at f1 f2
  have hWs : s.WarmedH U.vm := State.WarmedH.trans hW0 hW
  have hcl : s.vm.findClass cls = some ce.cls := by
    have h9 := hO.cls
    rw [hvm] at h9
    exact h9
  have hall : s.sameButNew ({ U with vm := s.vm } : State) locs mc ms := by
    subst hA
    obtain ⟨e1, e2⟩ := hsame
    rw [State.setFrames_setFrames] at e1
    have h2 : (T.setVm s.vm).sameButNew ({ U with vm := s.vm } : State) [] (0 + 1) (0 + 6) := ⟨e1, e2⟩
    have h3 := X.same.trans h2
    rw [List.append_nil] at h3
    exact h3.mono hc hs
  refine ⟨U, ?_, .threw T.heap.size, hrun, hend, Or.inr ⟨T.heap.size, rfl, cls, ce, locs, hx U hWs.alike f1 (fun q hq => f2 q hq (fun z hz => nomatch hz)), hce, hO.vm, hcl, hWs, hall, hf⟩⟩
  refine st1 _ ?_
  show Steps p.tables e below (T1.setTop { method := m, pc := pc + 3, locals := ls, stack := .ref T.heap.size :: rest, locked := none }) _
  jvm_step X₁.here [X₁.here.top, hexec, d3', Value.category]
  exact X₁.ldcString hexec (own := own) (text := text) (index := is) (a := sa) hown' hstr'.1 hstr'.2
    (g := { method := m, pc := pc + 4, locals := ls, stack := .ref T.heap.size :: .ref T.heap.size :: rest, locked := none }) rfl d4' _ hsteps
/-- 'throw new E("text")', the text by a wide index -/
theorem vx_throwSW {cc : ByteArray} {pc : Nat} (hexec : p.tables.exec = Jvm.exec) (hb : c.code = cc) (hl : l.stackTraces = false) {own cls text : String} {names : List String} {ik is ic mc ms sa : Nat} {A : Nat → Prop}
    (hown : s.vm.findClass own = some m.cls) (hcls : Bundle.fit cls = true) (hnames : ∀ n ∈ names, Bundle.fit n = true)
    (hk : (Cond.classLink own ik cls).before args s = true) (hini : (Cond.initialized cls).before args s = true) (hstr : vk_R own is text sa s) (hat : ∀ w ∈ vx_atS own ic cls names, w.before args s = true)
    (hgood : ∀ w ∈ Cond.classLink own ik cls :: Cond.initialized cls :: vx_atS own ic cls names, vx_ot w = true)
    (hU : vx_Zq Bundle.tN "UNASSIGNED_STACK" Bundle.steD A s s.heap) (hN : vx_Zq Bundle.tN "SUPPRESSED_SENTINEL" Bundle.listD A s s.heap) (hS : va_S A s.heap H locs) (hsize : ls.size = c.maxLocals)
    (d0 : decode cc pc = .ok (.new ik, 3)) (d3 : decode cc (pc + 3) = .ok (.dup, 1)) (d4 : decode cc (pc + 4) = .ok (.ldc_w is, 3)) (d7 : decode cc (pc + 7) = .ok (.invokespecial ic, 3)) (d10 : decode cc (pc + 10) = .ok (.athrow, 1))
    (hout : ∀ x ∈ c.exceptionTable.toList, covers x (pc + 10) = false)
    (hRframes : names.length + 3 < R.frames) (hRlocals : (rest.map fun v => v.category).sum + (13 * (names.length + 1) + 43) ≤ R.locals) (hRcells : cells + 1 ≤ R.cells) (hRslots : slots + 6 ≤ R.slots) (hlocks : meth.locks = false)
    (hx : ∀ t : State, s.vm.Alike t.vm → H.size ≤ t.heap.size → (∀ q : Nat, q < H.size → t.heap[q]? = H[q]?) → XC cls s t)
    (hf : ∀ z ∈ locs, free z.base) (hc : cells + 1 ≤ mc) (hs : slots + 6 ≤ ms) :
    W p l e R s m args below meth c H locs cells slots (vx_MQ below Qc XC args s mc ms free) (F0 m pc ls rest) := by
  intro T hT X
  have htr : e.platform.stackTraces = false := (show e.platform.stackTraces = l.stackTraces by rw [X.admits.platform]).trans hl
  have Y := vx_rebase X (R' := { frames := R.frames, locals := R.locals, cells := 1, slots := 6 }) (Nat.le_refl _) (Nat.le_refl _) hRcells hRslots
  obtain ⟨s', hA⟩ : ∃ z, z = (T.setVm s.vm).setFrames (.invoking m args :: below) := ⟨_, rfl⟩
  rw [← hA] at Y
  have hvm : s'.vm = s.vm := by rw [hA]; rfl
  have hhp : s'.heap = H := by rw [hA]; exact hT
  have hW0 : s.WarmedH s'.vm := by rw [hvm]; exact State.WarmedH.refl s
  have hat' : ∀ w ∈ vx_atS own ic cls names, w.before args s' = true := fun w hw => vx_ot_at hW0 hvm.symm (hgood w (List.mem_cons_of_mem _ (List.mem_cons_of_mem _ hw))) (hat w hw)
  have hk' : (Cond.classLink own ik cls).before args s' = true := vx_ot_at hW0 hvm.symm (hgood _ List.mem_cons_self) hk
  have hini' : (Cond.initialized cls).before args s' = true := vx_ot_at hW0 hvm.symm (hgood _ (List.mem_cons_of_mem _ List.mem_cons_self)) hini
  have hU' : vx_Zq Bundle.tN "UNASSIGNED_STACK" Bundle.steD A s' s'.heap := by rw [hhp]; exact vx_Zq.moved hW0.alike (hU.kept hS.2.1)
  have hN' : vx_Zq Bundle.tN "SUPPRESSED_SENTINEL" Bundle.listD A s' s'.heap := by rw [hhp]; exact vx_Zq.moved hW0.alike (hN.kept hS.2.1)
  have h : ∀ w ∈ Bundle.ownAtoms own ic cls names, w.before args s' = true := vx_own hat' (vx_isRefq hU'.1) (vx_isRefq hN'.1) hU'.2.word hN'.2.word
  have hown' : s'.vm.findClass own = some m.cls := by rw [hvm]; exact hown
  have hins : (Cond.instantiable cls 6).before args s' = true := h _ (by simp [Bundle.ownAtoms])
  obtain ⟨vm₁, cX, kX, hfX, hkX, -, -, X₁, st1⟩ := Y.newCold hexec (own := own) (C := cls) (index := ik) (n := 6) hown' hk' hins hini'
    (g := F0 m pc ls rest) rfl (by rw [hb]; exact d0) (Nat.le_refl _) (Nat.le_refl _)
  generalize hT1 : (T.setVm vm₁).pushCell { cls := cX, slots := kX.instanceTypes.map defaultValue, vm := .none } = T1 at X₁ st1
  have hcat : (Value.ref T.heap.size).category = 1 := rfl
  have hcellA : T1.heap[T.heap.size]? = some (freshCell cX kX) := by rw [← hT1]; exact State.heap_pushCell_size _ _
  have d3' : decode c.code (pc + 3) = .ok (.dup, 1) := by rw [hb]; exact d3
  have d4' : decode c.code (pc + 4) = .ok (.ldc_w is, 3) := by rw [hb]; exact d4
  have hstr' : vk_R own is text sa s' := vk_R.warm hW0 hstr
  obtain ⟨U, hsteps, hrun, hend, hW, hsame, ce, hce, hO⟩ := X₁.ctorThrowS hexec htr (own := own) (cls := cls) (names := names) (ic := ic) hown' hcls hnames h (fun x hx => nomatch hx) hfX hkX hcellA (by rw [hhp, hT]; exact Nat.le_refl _) (msg := .ref sa) rfl
    (g := { method := m, pc := pc + 7, locals := ls, stack := .ref sa :: .ref T.heap.size :: .ref T.heap.size :: rest, locked := none }) rfl hsize rfl rfl (rest := rest) rfl
    (by rw [hb]; exact d7) (by rw [hb]; exact d10) hout hRframes (by simp only [List.map_cons, List.sum_cons, hcat]; omega) hlocks
  obtain ⟨f1, f2⟩ := vx_frame hsame
  rw [hhp] at f1 f2
  have hWs : s.WarmedH U.vm := State.WarmedH.trans hW0 hW
  have hcl : s.vm.findClass cls = some ce.cls := by
    have h9 := hO.cls
    rw [hvm] at h9
    exact h9
  have hall : s.sameButNew ({ U with vm := s.vm } : State) locs mc ms := by
    subst hA
    obtain ⟨e1, e2⟩ := hsame
    rw [State.setFrames_setFrames] at e1
    have h2 : (T.setVm s.vm).sameButNew ({ U with vm := s.vm } : State) [] (0 + 1) (0 + 6) := ⟨e1, e2⟩
    have h3 := X.same.trans h2
    rw [List.append_nil] at h3
    exact h3.mono hc hs
  refine ⟨U, ?_, .threw T.heap.size, hrun, hend, Or.inr ⟨T.heap.size, rfl, cls, ce, locs, hx U hWs.alike f1 (fun q hq => f2 q hq (fun z hz => nomatch hz)), hce, hO.vm, hcl, hWs, hall, hf⟩⟩
  refine st1 _ ?_
  show Steps p.tables e below (T1.setTop { method := m, pc := pc + 3, locals := ls, stack := .ref T.heap.size :: rest, locked := none }) _
  jvm_step X₁.here [X₁.here.top, hexec, d3', Value.category]
  exact X₁.ldcStringW hexec (own := own) (text := text) (index := is) (a := sa) hown' hstr'.1 hstr'.2
    (g := { method := m, pc := pc + 4, locals := ls, stack := .ref T.heap.size :: .ref T.heap.size :: rest, locked := none }) rfl d4' _ hsteps
end Ends
section Bodies
variable {l : Launch}
theorem vx_ofW {y : MethodName} {ws ws' : List Cond} {rm : Room} {Pc : Array Value → State → Prop} {Qc : Array Value → State → Outcome → State → Prop} {XC : String → State → State → Prop} {mc ms : Nat} {free : Addr → Prop} {cc : ByteArray} {maxL : Nat} {ret : Option FieldType}
    (hy : plainName y.cls = true) (hw : ws = Cond.code y cc maxL ret :: ws')
    (body : ∀ p e s m args below meth c s₁, BodyLoose p l y (headSpec ws rm) cc maxL ret e s m args below meth c s₁ → c.maxLocals = maxL → (∀ x ∈ c.exceptionTable.toList, False) → Pc args s →
      W p l e (headSpec ws rm).room s m args below meth c s.heap [] 0 0 (vx_MQ below Qc XC args s mc ms free) (entryFrame m args maxL)) : vx_Met l y ws rm Pc Qc XC mc ms free := by
  refine MetFree.of_bodyS (code := cc) (maxLocals := maxL) (ret := ret) hy ?_ ?_
  · intro args s m h hn
    obtain ⟨meth, c, h1, h2, h3, h4, h5, h6, -, -⟩ := Cond.code_spec hn (atoms_spec (ws := ws) h _ (by rw [hw]; exact List.mem_cons_self))
    exact ⟨meth, c, h1, h2, h3, h4, h5, h6⟩
  · intro p e s m args below meth c s₁ B hml hP _
    have hh0 : s₁.heap = s.heap := by rw [B.state]; rfl
    have ht : ∀ x ∈ c.exceptionTable.toList, False := by
      obtain ⟨meth9, c9, h1, h2, -, -, -, -, h7, -⟩ := Cond.code_spec B.named (atoms_spec (ws := ws) B.pre _ (by rw [hw]; exact List.mem_cons_self))
      cases Option.some.inj (h1.symm.trans B.method)
      cases Option.some.inj (h2.symm.trans (Stand.of_body B).code)
      intro x hx
      rw [Array.isEmpty_iff.mp h7] at hx
      cases hx
    obtain ⟨t, a1, o, b1, b2, b3⟩ := body p e s m args below meth c s₁ B hml ht hP s₁ hh0 (Stand.of_body B)
    exact ⟨t, o, a1, b1, b2, b3⟩
/-- the table of a body with handlers -/
theorem vx_table {p : Program} {x y : MethodName} {S : Spec} {cc bytes : ByteArray} {maxL maxL' : Nat} {ret ret' : Option FieldType} {e : Env} {s s₁ : State} {m : MethodId} {args : Array Value} {below : List Frame} {meth : Method} {c : Code} {hh : List (Nat × Nat × Nat × Nat)}
    (B : BodyLoose p l y S cc maxL ret e s m args below meth c s₁) (h : (Cond.codeWith y bytes maxL' ret' hh).before args s = true) : c.exceptionTable.toList = tableOf hh := by
  obtain ⟨m9, meth9, c9, hn9, h1, h2, -, -, h6, -⟩ := Cond.codeWith_spec h
  cases Option.some.inj (hn9.symm.trans B.named)
  cases Option.some.inj (h1.symm.trans B.method)
  cases Option.some.inj (h2.symm.trans (Stand.of_body B).code)
  rw [← h6, table_eq]
end Bodies
end VXA
/-! ===== END ===== -/
/-! ===== BEGIN a static call of a method with an exception table ===== -/
section VXS
variable {p : Program} {l : Launch} {e : Env} {R : Room} {s : State} {m : MethodId} {args : Array Value} {below : List Frame} {meth : Method} {c : Code} {T : State} {H : Heap} {locs : List Loc} {cells slots : Nat}
abbrev vx_CSW (R : Room) (s : State) (args : Array Value) (own : String) (index : Nat) (y : MethodName) (bytes : ByteArray) (maxL : Nat) (ret : Option FieldType) (hh : List (Nat × Nat × Nat × Nat)) (ws : List Cond) (rm : Room) (mc ms n : Nat) : Prop :=
  (rm.cells = mc ∧ rm.slots = ms ∧ rm.frames + 1 ≤ R.frames ∧ 8 + (maxL + 11) + rm.locals ≤ R.locals ∧ (∀ w ∈ ws, ∀ (a' : Array Value) (U : State), s.WarmedH U.vm → w.before a' U = true) ∧ Cond.codeWith y bytes maxL ret hh ∈ ws) ∧
  (Cond.codeWith y bytes maxL ret hh).before args s = true ∧ (Cond.initialized y.cls).before args s = true ∧ (y.cls ≠ "java/lang/invoke/MethodHandle" ∧ y.cls ≠ "java/lang/invoke/VarHandle") ∧
  (∀ sig, parseMethodDescriptor y.desc = some sig → n = sig.parameters.length) ∧ (Cond.methodLink own index y).before args s = true ∧ (Cond.static y).before args s = true
theorem vx_cwSW {own : String} {index maxL mc ms : Nat} {y : MethodName} {bytes : ByteArray} {ret : Option FieldType} {hh : List (Nat × Nat × Nat × Nat)} {Ts ws ws' : List Cond} {rm : Room} (n : Nat) (ht : ∀ w ∈ Ts, w.before args s = true) (hT : GoodIn Ts (va_wsS own index y ws)) (hw : ws = Cond.codeWith y bytes maxL ret hh :: ws') (hrc : rm.cells = mc) (hrs : rm.slots = ms)
    (hd : y.cls ≠ "java/lang/invoke/MethodHandle" ∧ y.cls ≠ "java/lang/invoke/VarHandle" ∧ (parseMethodDescriptor y.desc).map (fun d => d.parameters.length) = some n) (hR : rm.frames + 1 ≤ R.frames ∧ 8 + (maxL + 11) + rm.locals ≤ R.locals) :
    vx_CSW R s args own index y bytes maxL ret hh ws rm mc ms n := by
  have ok : ∀ w ∈ va_wsS own index y ws, w.before args s = true := fun w h => ht w (hT w h).1
  have hG : GoodIn Ts ws := fun w h => hT w (by unfold va_wsS; exact List.mem_append_right _ h)
  have hc : Cond.codeWith y bytes maxL ret hh ∈ ws := by rw [hw]; exact List.mem_cons_self
  refine ⟨⟨hrc, hrs, hR.1, hR.2, pay_in ht hG, hc⟩, ht _ (hG _ hc).1, ok _ (by simp [va_wsS]), ⟨hd.1, hd.2.1⟩, fun sig h => ?_, ok _ (by simp [va_wsS]), ok _ (by simp [va_wsS])⟩
  have h2 := hd.2.2
  rw [h] at h2
  exact (Option.some.inj h2).symm
theorem vx_callSW (X : Stand p l e R s m args below meth c T locs cells slots) (hexec : p.tables.exec = Jvm.exec) {own : String} {index : Nat} {y : MethodName} {bytes : ByteArray} {maxL : Nat} {ret : Option FieldType} {hh : List (Nat × Nat × Nat × Nat)}
    (hown : s.vm.findClass own = some m.cls) (hlink : (Cond.methodLink own index y).before args s = true) (hstat : (Cond.static y).before args s = true) (hinit : (Cond.initialized y.cls).before args s = true)
    (hcode : (Cond.codeWith y bytes maxL ret hh).before args s = true) (hy : y.cls ≠ "java/lang/invoke/MethodHandle" ∧ y.cls ≠ "java/lang/invoke/VarHandle")
    {W9 : Nat} {Pre : Pt → Array Value → Prop} {Post : Pt → Array Value → Option Value → Pt → Prop} (hK : Back l R p e below s args y 3 W9 Pre Post)
    {g : JFrame} (hg : g.method = m) (hsize : g.locals.size = c.maxLocals) {argsL rest : List Value} (hlen : ∀ sig, parseMethodDescriptor y.desc = some sig → argsL.length = sig.parameters.length)
    (hstack : g.stack = argsL.reverse ++ rest) (hW : 2 * g.monitorRoom + (rest.map fun v => v.category).sum ≤ W9) (hdg : decode c.code g.pc = .ok (.invokestatic index, 3))
    (hpre : ∀ vm₁, s.WarmedH vm₁ → Pre ⟨T.setVm vm₁, locs, cells, slots⟩ argsL.toArray) :
    ∃ (v : Option Value) (vm₁ : Vm) (B : Pt), s.WarmedH vm₁ ∧ Stand p l e R s m args below meth c B.U B.locs B.cells B.slots ∧ Post ⟨T.setVm vm₁, locs, cells, slots⟩ argsL.toArray v B ∧
      ∀ target, Steps p.tables e below (B.U.setTop { g with pc := g.pc + 3, stack := v.toList ++ rest }) target → Steps p.tables e below (T.setTop g) target := by
  obtain ⟨mk, methM, cM, hnamed, hmethM, -, -, -, -, -, -, hsigM⟩ := Cond.codeWith_spec hcode
  have hstatic : methM.isStatic = true := Cond.static_spec hnamed hmethM hstat
  obtain ⟨kP, hkP, -⟩ := className_of_methodNamed hnamed
  have hinitP : kP.init = .initialized := Cond.initialized_spec (findClass_of_methodNamed hnamed) hkP hinit
  obtain ⟨vm₁, X₁, hstep₁⟩ := X.invokestatic hexec hown hlink hnamed hmethM hstatic hkP hinitP hy (g := g) hg (argsL := argsL) (rest := rest) (hlen _ hsigM) hstack hdg
  obtain ⟨v, B, X', hpost, hsteps⟩ := hK m meth c ⟨T.setVm vm₁, locs, cells, slots⟩ { g with stack := rest } (.invokestatic index) mk argsL.toArray X₁ hg hsize hdg hW (X₁.named hnamed) (hpre vm₁ X₁.warmed)
  exact ⟨v, vm₁, B, X₁.warmed, X', hpost, fun target h => hstep₁ _ fun acts => by rw [doInvoke_state]; exact hsteps.trans h⟩
theorem vx_runSW {y : MethodName} {bytes cc : ByteArray} {maxL nL mc ms n index : Nat} {ret : Option FieldType} {hh : List (Nat × Nat × Nat × Nat)} {ws : List Cond} {rm : Room} {Pc : Array Value → State → Prop} {Qc : Array Value → State → Outcome → State → Prop} {free : Addr → Prop} {Ts : List Cond} {own : String} {As rest : List Value} {g : JFrame}
    (S : CallFix p m c cc nL s args Ts own) (hM : Met l y ws rm Pc Qc mc ms free) (cw : vx_CSW R s args own index y bytes maxL ret hh ws rm mc ms n) (hp : PreS s H Pc As)
    (hg : g.method = m) (hn : As.length = n) (hsize : g.locals.size = nL) (hstack : g.stack = As.reverse ++ rest) (hW : 2 * g.monitorRoom + (rest.map fun v => v.category).sum ≤ 8) (hdg : decode cc g.pc = .ok (.invokestatic index, 3)) (hf : cells + mc ≤ R.cells ∧ slots + ms ≤ R.slots) :
    va_Run p l e R s m args below meth c H locs cells slots mc ms g rest (Qc As.toArray) (free) := by
  obtain ⟨⟨hrc, hrs, hfr, hlo, hws, hcw⟩, hcode, hini, hy, hlen, hl, hstt⟩ := cw
  have hK : Back l R p e below s args y 3 8 (PreOf R mc ms Pc) (PostOf Qc mc ms free) := va_backW (hh := hh) (bytes := bytes) (maxL := maxL) (ret := ret) hM hp.1 hrc hrs hfr hlo hws hcw (fun a' U hW => word_at hW (Or.inl (by first | rfl | simp [Cond.onTables, Cond.keeps, Cond.steady])) hini)
  obtain ⟨hx, hb, hml, ho, -⟩ := S
  intro T hT X
  obtain ⟨v, vm₁, ⟨U', l2, c2, s2⟩, hW₁, X', ⟨g', mk, t, L, e1, e2, hq, h1, hL, h2, h3⟩, st⟩ := vx_callSW X hx (hh := hh) (bytes := bytes) (maxL := maxL) (ret := ret) ho hl hstt hini hcode hy hK hg (hsize.trans hml.symm) (argsL := As) (rest := rest) (fun sig h => hn.trans (hlen sig h)) hstack hW (by rw [hb]; exact hdg)
    (fun vm₁ hW₁ => ⟨hf.1, hf.2, hp.2 (T.setVm vm₁) hT hW₁⟩)
  dsimp only [Pt.U, Pt.locs, Pt.cells, Pt.slots] at X' e1 e2 h1 h2 h3 st
  subst h1; subst h2; subst h3
  exact ⟨v, (T.setVm vm₁).calling g' mk As.toArray, t, U', L, hT, X', hL, e1, e2, hq, st⟩
/-- not caught here, past rows that name other classes: it goes on to the caller -/
theorem vx_outP {p : Program} {l : Launch} {e : Env} {R : Room} {s : State} {m : MethodId} {args : Array Value} {below : List Frame} {meth : Method} {c : Code} {H : Heap} {locs : List Loc} {cells slots : Nat} {free : Addr → Prop} {ls : Array Slot} {rest : List Value} {Qc : Array Value → State → Outcome → State → Prop} {XC : String → State → State → Prop}
    {pc : Nat} {own E : String} {ce : Cell} {q : Addr} {mc ms : Nat} (hown : s.vm.findClass own = some m.cls) (hlocks : meth.locks = false)
    (hpass : ∀ z ∈ c.exceptionTable.toList, covers z pc = false ∨ (z.catchType ≠ 0 ∧ ∃ nm : String, (Cond.classLink own z.catchType nm).before args s = true ∧ va_Nc E nm s)) (hcell : H[q]? = some ce) (hv : ce.vm = .none) (hcl : s.vm.findClass E = some ce.cls)
    (hx : ∀ t : State, t.heap = H → s.vm.Alike t.vm → XC E s t) (hf : ∀ z ∈ locs, free z.base) (hc : cells ≤ mc) (hs : slots ≤ ms) :
    vx_W p l e R s m args below meth c H locs cells slots (vx_MQ below Qc XC args s mc ms free) (F0 m pc ls rest) q := by
  intro T hT X
  have hpl : e.platform.magicAccessors = ({} : Platform).magicAccessors := by rw [X.admits.platform]
  obtain ⟨vm', hW', X', st⟩ := X.outThrough hlocks q (g := F0 m pc ls rest) rfl rfl rfl (cell := ce) (by rw [hT]; exact hcell) (by rw [hv]; rfl)
    (by obtain ⟨k9, h9, -⟩ := Vm.findClass_spec hcl; exact ⟨k9, h9⟩) (fun z hz => by
      rcases hpass z hz with h | ⟨hz0, nm, hl1, hn1⟩
      · exact Or.inl h
      · obtain ⟨c6, hc6, hcl6⟩ := Cond.classLink_spec hown hl1 e.platform hpl
        obtain ⟨a8, b8, h1, h2, h3⟩ := hn1
        cases Option.some.inj (h1.symm.trans hcl)
        cases Option.some.inj (h2.symm.trans hc6)
        exact Or.inr ⟨hz0, _, hcl6, h3⟩)
  obtain ⟨g₀, hfr⟩ := X'.frames_eq
  have hcell9 : ((T.setVm vm').setFrames (.throwing q :: below)).heap[q]? = some ce := by
    show T.heap[q]? = some ce
    rw [hT]; exact hcell
  have hend : Ended ((T.setVm vm').setFrames (.throwing q :: below)) below (.threw q) := State.frames_setFrames _ (State.cur_lt_of_frames hfr)
  refine ⟨(T.setVm vm').setFrames (.throwing q :: below), ?_, .threw q, X'.here.running, hend, Or.inr ⟨q, rfl, E, ce, locs, hx _ hT (X'.ends _).1.alike, hcell9, hv, hcl, (X'.ends _).1, (X'.ends _).2.mono hc hs, hf⟩⟩
  rw [X.pushThrowing_eq]
  exact st
/-- a thing of a world lies in the heap -/
theorem vx_lt {D : va_G} {cl : List vw_C} {ws : va_W} {H1 : Heap} (h : va_P D cl ws H1) {k : Nat} {q : Nat × va_E} (hk : ws[k]? = some q) : q.1 < H1.size := (h k q hk).lt
end VXS
/-! ===== END ===== -/
/-! ===== BEGIN methods with a table of their own: called by a name, returning or throwing ===== -/
section VXH
/-! vx_backW, vx_callVX, vx_callSX, vx_callVW, vx_runVW, vx_runVX, vx_runSX, vx_ofWH follow the same proofs as their sisters above (Free/Laws.lean, Shelf42/LK1.lean); vx_outP calls Shelf42/NT130.lean (outThrough). -/
section
variable {l : Launch} {R : Room} {p : Program} {e : Env} {below : List Frame} {s : State} {sargs : Array Value} {y : MethodName} {len W9 : Nat}
theorem vx_backW {ws : List Cond} {rm : Room} {Pc : Array Value → State → Prop} {Qc : Array Value → State → Outcome → State → Prop} {XC : String → State → State → Prop} {mc ms : Nat} {free : Addr → Prop} {bytes : ByteArray} {maxL : Nat} {ret : Option FieldType} {hh : List (Nat × Nat × Nat × Nat)}
    (hM : vx_Met l y ws rm Pc Qc XC mc ms free) (hblind : FrameBlind Pc) (hrc : rm.cells = mc) (hrs : rm.slots = ms)
    (hframes : rm.frames + 1 ≤ R.frames) (hlocals : W9 + (maxL + 11) + rm.locals ≤ R.locals)
    (hws : ∀ w ∈ ws, ∀ a' U, s.WarmedH U.vm → w.before a' U = true) (hcode : Cond.codeWith y bytes maxL ret hh ∈ ws) (hinit : ∀ a' U, s.WarmedH U.vm → (Cond.initialized y.cls).before a' U = true) :
    vx_Back l R p e below s sargs y len W9 (PreOf R mc ms Pc) (PostOf Qc mc ms free) (vx_Post XC mc ms free) := by
  intro m meth c A g ig mk a X hg hsize hdg hW hn hp
  have h1 : (headSpec ws rm).pre.before a A.U = true := atoms_intro fun w hw => hws w hw _ _ X.warmed
  have h2 : (Cond.codeWith y bytes maxL ret hh).before a A.U = true := hws _ hcode _ _ X.warmed
  have h3 : (Cond.initialized y.cls).before a A.U = true := hinit _ _ X.warmed
  have h4 : A.cells + (headSpec ws rm).room.cells ≤ R.cells := by rw [show (headSpec ws rm).room.cells = mc from hrc]; exact hp.1
  have h5 : A.slots + (headSpec ws rm).room.slots ≤ R.slots := by rw [show (headSpec ws rm).room.slots = ms from hrs]; exact hp.2.1
  have hPc : Pc a (A.U.calling g mk a) := hblind _ _ _ _ hp.2.2
  obtain ⟨U, Ls, c0, s0⟩ := A
  dsimp only [Pt.U, Pt.locs, Pt.cells, Pt.slots] at h1 h2 h3 h4 h5 X hn hPc ⊢
  obtain ⟨m9, methY, cY, hn9, hmY, hcY, -, hlY, -⟩ := Cond.codeWith_spec h2
  cases Option.some.inj (hn9.symm.trans hn)
  obtain ⟨kY, hkY, -⟩ := className_of_methodNamed hn
  have hinitY : kY.init = .initialized := Cond.initialized_spec (findClass_of_methodNamed hn) hkY h3
  have h : At U g.method c below := by rw [hg]; exact X.here
  have hlocals9 : W9 + (maxL + 11) + (headSpec ws rm).room.locals ≤ R.locals := hlocals
  have happ : (headSpec ws rm).appliesLoose y e.platform (U.calling g mk a) = true :=
    Spec.appliesLoose_calling (g := g) h hdg hn hkY hinitY
      (X.room_calling (g := g) (R' := (headSpec ws rm).room) hsize hmY hcY hframes (by rw [hlY]; omega) h4 h5) h1
  obtain ⟨mid, hmid⟩ := h.above
  have hfr : (U.setTop g).frames = (.java g :: mid) ++ below := by rw [State.frames_setTop' g h.top, hmid]; rfl
  obtain ⟨o, s₂, hsteps, -, hend, hq⟩ := Steps.callFree hM p X.admits X.cas X.clock (acts := []) hfr happ hPc trivial
  have hq' : vx_Q Qc XC mc ms free a (U.calling g mk a) o s₂ := hq
  rw [State.frames_setTop' g h.top] at hend
  obtain ⟨g₀, hg0⟩ := Option.isSome_iff_exists.mp h.top
  obtain ⟨r, hr⟩ := State.topJava?_eq_some.mp hg0
  have hr' : (({ U with heap := s₂.heap, slotsUsed := s₂.slotsUsed } : State).setVm s₂.vm).frames = .java g₀ :: r := hr
  rcases hq' with ⟨hqc, L, hfe, hL⟩ | ⟨q, rfl, E, ce, L, hx, hce, hcv, hcl, hW₂, hsm, hL⟩
  · obtain ⟨⟨v, rfl⟩, hW₂, e2, q2, q3, q4, q5, q6⟩ := id hfe
    have e3 : s₂ = ({ (U.calling g mk a).setFrames s₂.frames with heap := s₂.heap, slotsUsed := s₂.slotsUsed } : State).setVm s₂.vm := by
      have : s₂ = ({ s₂ with vm := (U.calling g mk a).vm } : State).setVm s₂.vm := rfl
      rw [e2] at this
      exact this
    obtain ⟨c₂, i₂, len₂, hc₂, hd₂, hf₂⟩ := hend
    have hW' : U.WarmedH s₂.vm := hW₂
    have hcc : c₂ = c := by
      have h1 : s₂.code? g.method = U.code? g.method := by
        rw [State.code?_eq, State.code?_eq, hW'.alike.method?]
      exact Option.some.inj (hc₂.symm.trans (h1.trans h.code))
    subst hcc
    have hlen : len₂ = len := by rw [hdg] at hd₂; cases hd₂; rfl
    subst hlen
    have hs₂ : s₂ = (({ U with heap := s₂.heap, slotsUsed := s₂.slotsUsed } : State).setVm s₂.vm).setTop { g with pc := g.pc + len₂, stack := v.toList ++ g.stack } := by
      refine e3.trans ?_
      rw [hf₂, State.calling_eq h.top, State.setFrames_setFrames, State.setTop_of_frames _ hr', hr]
      rfl
    have hsame : U.sameButNew ({ U with heap := s₂.heap, slotsUsed := s₂.slotsUsed } : State) L mc ms := by
      refine ⟨?_, q2, q3, q4, q5, q6⟩
      obtain ⟨t, ht, -⟩ := State.frames_cons hr
      show ({ U with heap := s₂.heap, slotsUsed := s₂.slotsUsed } : State) = { U.setFrames U.frames with heap := s₂.heap, slotsUsed := s₂.slotsUsed }
      rw [State.setFrames_self ht]
    subst hg
    refine Or.inl ⟨v, ⟨(({ U with heap := s₂.heap, slotsUsed := s₂.slotsUsed } : State).setVm s₂.vm), Ls ++ L, c0 + mc, s0 + ms⟩,
      ⟨X.admits, X.cas, X.clock, X.frames, X.room, X.hears, X.method, X.code, (X.here.setHeapUsed s₂.heap s₂.slotsUsed).setVm hW'.alike, X.tail, State.WarmedH.trans X.warmed hW', X.limits, X.bytes, X.same.trans (hsame.setVm s.vm)⟩,
      ⟨g, mk, s₂, L, rfl, rfl, hqc, rfl, hL, rfl, rfl⟩, ?_⟩
    show Steps p.tables e below _ ((({ U with heap := s₂.heap, slotsUsed := s₂.slotsUsed } : State).setVm s₂.vm).setTop { g with pc := g.pc + len₂, stack := v.toList ++ g.stack })
    rw [← hs₂]
    exact hsteps
  · obtain ⟨e2, q2, q3, q4, q5, q6⟩ := id hsm
    have e3 : s₂ = ({ (U.calling g mk a).setFrames s₂.frames with heap := s₂.heap, slotsUsed := s₂.slotsUsed } : State).setVm s₂.vm := by
      have : s₂ = ({ s₂ with vm := (U.calling g mk a).vm } : State).setVm s₂.vm := rfl
      rw [e2] at this
      exact this
    have hf₂ : s₂.frames = .throwing q :: .java g :: U.frames.tail := hend
    have hW' : U.WarmedH s₂.vm := hW₂
    have hs₂ : s₂ = ((({ U with heap := s₂.heap, slotsUsed := s₂.slotsUsed } : State).setVm s₂.vm).setTop g).pushFrame (.throwing q) := by
      refine e3.trans ?_
      rw [hf₂, State.calling_eq h.top, State.setFrames_setFrames, State.pushFrame, State.frames_setTop _ hr', State.setTop_of_frames _ hr', State.setFrames_setFrames, hr]
      rfl
    have hsame : U.sameButNew ({ U with heap := s₂.heap, slotsUsed := s₂.slotsUsed } : State) L mc ms := by
      refine ⟨?_, q2, q3, q4, q5, q6⟩
      obtain ⟨t, ht, -⟩ := State.frames_cons hr
      show ({ U with heap := s₂.heap, slotsUsed := s₂.slotsUsed } : State) = { U.setFrames U.frames with heap := s₂.heap, slotsUsed := s₂.slotsUsed }
      rw [State.setFrames_self ht]
    subst hg
    refine Or.inr ⟨q, ⟨(({ U with heap := s₂.heap, slotsUsed := s₂.slotsUsed } : State).setVm s₂.vm), Ls ++ L, c0 + mc, s0 + ms⟩,
      ⟨X.admits, X.cas, X.clock, X.frames, X.room, X.hears, X.method, X.code, (X.here.setHeapUsed s₂.heap s₂.slotsUsed).setVm hW'.alike, X.tail, State.WarmedH.trans X.warmed hW', X.limits, X.bytes, X.same.trans (hsame.setVm s.vm)⟩,
      ⟨g, mk, s₂, L, E, ce, rfl, rfl, hx, hce, hcv, hcl, rfl, hL, rfl, rfl⟩, ?_⟩
    show Steps p.tables e below _ (((({ U with heap := s₂.heap, slotsUsed := s₂.slotsUsed } : State).setVm s₂.vm).setTop g).pushFrame (.throwing q))
    rw [← hs₂]
    exact hsteps
end
variable {p : Program} {l : Launch} {e : Env} {R : Room} {s : State} {m : MethodId} {args : Array Value} {below : List Frame} {meth : Method} {c : Code} {T : State} {H : Heap} {locs : List Loc} {cells slots : Nat}
theorem vx_callVX (X : Stand p l e R s m args below meth c T locs cells slots) (hexec : p.tables.exec = Jvm.exec) {own C : String} {index : Nat} {y : MethodName} {bytes : ByteArray} {maxL : Nat} {ret : Option FieldType} {hh : List (Nat × Nat × Nat × Nat)}
    (hown : s.vm.findClass own = some m.cls) (hlink : (Cond.methodLink own index y).before args s = true) (hinst : (Cond.instanceMethod y).before args s = true) (hsel : (Cond.selects C y y).before args s = true)
    (hcode : (Cond.codeWith y bytes maxL ret hh).before args s = true) (hy : y.cls ≠ "java/lang/invoke/MethodHandle" ∧ y.cls ≠ "java/lang/invoke/VarHandle")
    {W9 : Nat} {Pre : Pt → Array Value → Prop} {Post : Pt → Array Value → Option Value → Pt → Prop} {PostX : Pt → Array Value → Addr → Pt → Prop} (hK : vx_Back l R p e below s args y 3 W9 Pre Post PostX)
    {b : Addr} {cellB : Cell} (hcell : T.heap[b]? = some cellB) (hobj : cellB.vm.isStatics = false) (hcls : s.vm.findClass C = some cellB.cls)
    {g : JFrame} (hg : g.method = m) (hsize : g.locals.size = c.maxLocals) {argsL rest : List Value} (hlen : ∀ sig, parseMethodDescriptor y.desc = some sig → argsL.length = sig.parameters.length)
    (hstack : g.stack = argsL.reverse ++ .ref b :: rest) (hW : 2 * g.monitorRoom + (rest.map fun v => v.category).sum ≤ W9) (hdg : decode c.code g.pc = .ok (.invokevirtual index, 3))
    (hpre : ∀ vm₁, s.WarmedH vm₁ → Pre ⟨T.setVm vm₁, locs, cells, slots⟩ (Value.ref b :: argsL).toArray) :
    (∃ (v : Option Value) (vm₁ : Vm) (B : Pt), s.WarmedH vm₁ ∧ Stand p l e R s m args below meth c B.U B.locs B.cells B.slots ∧ Post ⟨T.setVm vm₁, locs, cells, slots⟩ (Value.ref b :: argsL).toArray v B ∧
      ∀ target, Steps p.tables e below (B.U.setTop { g with pc := g.pc + 3, stack := v.toList ++ rest }) target → Steps p.tables e below (T.setTop g) target) ∨
    (∃ (q : Addr) (vm₁ : Vm) (B : Pt), s.WarmedH vm₁ ∧ Stand p l e R s m args below meth c B.U B.locs B.cells B.slots ∧ PostX ⟨T.setVm vm₁, locs, cells, slots⟩ (Value.ref b :: argsL).toArray q B ∧
      Steps p.tables e below (T.setTop g) ((B.U.setTop { g with stack := rest }).pushFrame (.throwing q))) := by
  obtain ⟨mk, methM, hnamed, hmethM, hstM, habM⟩ := Cond.instanceMethod_spec hinst
  obtain ⟨m8, methM', cM, hn8, hmethM', -, -, -, -, -, -, hsigM⟩ := Cond.codeWith_spec hcode
  cases Option.some.inj (hn8.symm.trans hnamed)
  cases hmethM.symm.trans hmethM'
  obtain ⟨c2, r2, m2, q1, q2, q3, q4, kP, hkP, hkPi⟩ := Cond.selects_spec hsel
  cases hcls.symm.trans q1
  cases (State.methodFound?_of_named hnamed hy).symm.trans q2
  cases hnamed.symm.trans q3
  have hselP : selectMethod e.platform s.vm cellB.cls mk = .method mk := by rw [Launch.admits_selectMethod X.admits]; exact q4
  obtain ⟨vm₁, X₁, hstep₁⟩ := X.invokevirtual hexec hown hlink hnamed hmethM hstM hkP hkPi hy (a := b) (cell := cellB) hcell
    (fun z h => by rw [h] at hobj; cases hobj) hselP hmethM habM hkP hkPi (g := g) hg (argsL := argsL) (rest := rest) (hlen _ hsigM) hstack hdg
  rcases hK m meth c ⟨T.setVm vm₁, locs, cells, slots⟩ { g with stack := rest } (.invokevirtual index) mk (Value.ref b :: argsL).toArray X₁ hg hsize hdg hW (X₁.named hnamed) (hpre vm₁ X₁.warmed) with ⟨v, B, X', hpost, hsteps⟩ | ⟨q, B, X', hpost, hsteps⟩
  · exact Or.inl ⟨v, vm₁, B, X₁.warmed, X', hpost, fun target h => hstep₁ _ fun acts => by rw [doInvoke_state]; exact hsteps.trans h⟩
  · exact Or.inr ⟨q, vm₁, B, X₁.warmed, X', hpost, hstep₁ _ fun acts => by rw [doInvoke_state]; exact hsteps⟩
theorem vx_callSX (X : Stand p l e R s m args below meth c T locs cells slots) (hexec : p.tables.exec = Jvm.exec) {own : String} {index : Nat} {y : MethodName} {bytes : ByteArray} {maxL : Nat} {ret : Option FieldType} {hh : List (Nat × Nat × Nat × Nat)}
    (hown : s.vm.findClass own = some m.cls) (hlink : (Cond.methodLink own index y).before args s = true) (hstat : (Cond.static y).before args s = true) (hinit : (Cond.initialized y.cls).before args s = true)
    (hcode : (Cond.codeWith y bytes maxL ret hh).before args s = true) (hy : y.cls ≠ "java/lang/invoke/MethodHandle" ∧ y.cls ≠ "java/lang/invoke/VarHandle")
    {W9 : Nat} {Pre : Pt → Array Value → Prop} {Post : Pt → Array Value → Option Value → Pt → Prop} {PostX : Pt → Array Value → Addr → Pt → Prop} (hK : vx_Back l R p e below s args y 3 W9 Pre Post PostX)
    {g : JFrame} (hg : g.method = m) (hsize : g.locals.size = c.maxLocals) {argsL rest : List Value} (hlen : ∀ sig, parseMethodDescriptor y.desc = some sig → argsL.length = sig.parameters.length)
    (hstack : g.stack = argsL.reverse ++ rest) (hW : 2 * g.monitorRoom + (rest.map fun v => v.category).sum ≤ W9) (hdg : decode c.code g.pc = .ok (.invokestatic index, 3))
    (hpre : ∀ vm₁, s.WarmedH vm₁ → Pre ⟨T.setVm vm₁, locs, cells, slots⟩ argsL.toArray) :
    (∃ (v : Option Value) (vm₁ : Vm) (B : Pt), s.WarmedH vm₁ ∧ Stand p l e R s m args below meth c B.U B.locs B.cells B.slots ∧ Post ⟨T.setVm vm₁, locs, cells, slots⟩ argsL.toArray v B ∧
      ∀ target, Steps p.tables e below (B.U.setTop { g with pc := g.pc + 3, stack := v.toList ++ rest }) target → Steps p.tables e below (T.setTop g) target) ∨
    (∃ (q : Addr) (vm₁ : Vm) (B : Pt), s.WarmedH vm₁ ∧ Stand p l e R s m args below meth c B.U B.locs B.cells B.slots ∧ PostX ⟨T.setVm vm₁, locs, cells, slots⟩ argsL.toArray q B ∧
      Steps p.tables e below (T.setTop g) ((B.U.setTop { g with stack := rest }).pushFrame (.throwing q))) := by
  obtain ⟨mk, methM, cM, hnamed, hmethM, -, -, -, -, -, -, hsigM⟩ := Cond.codeWith_spec hcode
  have hstatic : methM.isStatic = true := Cond.static_spec hnamed hmethM hstat
  obtain ⟨kP, hkP, -⟩ := className_of_methodNamed hnamed
  have hinitP : kP.init = .initialized := Cond.initialized_spec (findClass_of_methodNamed hnamed) hkP hinit
  obtain ⟨vm₁, X₁, hstep₁⟩ := X.invokestatic hexec hown hlink hnamed hmethM hstatic hkP hinitP hy (g := g) hg (argsL := argsL) (rest := rest) (hlen _ hsigM) hstack hdg
  rcases hK m meth c ⟨T.setVm vm₁, locs, cells, slots⟩ { g with stack := rest } (.invokestatic index) mk argsL.toArray X₁ hg hsize hdg hW (X₁.named hnamed) (hpre vm₁ X₁.warmed) with ⟨v, B, X', hpost, hsteps⟩ | ⟨q, B, X', hpost, hsteps⟩
  · exact Or.inl ⟨v, vm₁, B, X₁.warmed, X', hpost, fun target h => hstep₁ _ fun acts => by rw [doInvoke_state]; exact hsteps.trans h⟩
  · exact Or.inr ⟨q, vm₁, B, X₁.warmed, X', hpost, hstep₁ _ fun acts => by rw [doInvoke_state]; exact hsteps⟩
theorem vx_callVW (X : Stand p l e R s m args below meth c T locs cells slots) (hexec : p.tables.exec = Jvm.exec) {own C : String} {index : Nat} {y : MethodName} {bytes : ByteArray} {maxL : Nat} {ret : Option FieldType} {hh : List (Nat × Nat × Nat × Nat)}
    (hown : s.vm.findClass own = some m.cls) (hlink : (Cond.methodLink own index y).before args s = true) (hinst : (Cond.instanceMethod y).before args s = true) (hsel : (Cond.selects C y y).before args s = true)
    (hcode : (Cond.codeWith y bytes maxL ret hh).before args s = true) (hy : y.cls ≠ "java/lang/invoke/MethodHandle" ∧ y.cls ≠ "java/lang/invoke/VarHandle")
    {W9 : Nat} {Pre : Pt → Array Value → Prop} {Post : Pt → Array Value → Option Value → Pt → Prop} (hK : Back l R p e below s args y 3 W9 Pre Post)
    {b : Addr} {cellB : Cell} (hcell : T.heap[b]? = some cellB) (hobj : cellB.vm.isStatics = false) (hcls : s.vm.findClass C = some cellB.cls)
    {g : JFrame} (hg : g.method = m) (hsize : g.locals.size = c.maxLocals) {argsL rest : List Value} (hlen : ∀ sig, parseMethodDescriptor y.desc = some sig → argsL.length = sig.parameters.length)
    (hstack : g.stack = argsL.reverse ++ .ref b :: rest) (hW : 2 * g.monitorRoom + (rest.map fun v => v.category).sum ≤ W9) (hdg : decode c.code g.pc = .ok (.invokevirtual index, 3))
    (hpre : ∀ vm₁, s.WarmedH vm₁ → Pre ⟨T.setVm vm₁, locs, cells, slots⟩ (Value.ref b :: argsL).toArray) :
    ∃ (v : Option Value) (vm₁ : Vm) (B : Pt), s.WarmedH vm₁ ∧ Stand p l e R s m args below meth c B.U B.locs B.cells B.slots ∧ Post ⟨T.setVm vm₁, locs, cells, slots⟩ (Value.ref b :: argsL).toArray v B ∧
      ∀ target, Steps p.tables e below (B.U.setTop { g with pc := g.pc + 3, stack := v.toList ++ rest }) target → Steps p.tables e below (T.setTop g) target := by
  obtain ⟨mk, methM, hnamed, hmethM, hstM, habM⟩ := Cond.instanceMethod_spec hinst
  obtain ⟨m8, methM', cM, hn8, hmethM', -, -, -, -, -, -, hsigM⟩ := Cond.codeWith_spec hcode
  cases Option.some.inj (hn8.symm.trans hnamed)
  cases hmethM.symm.trans hmethM'
  obtain ⟨c2, r2, m2, q1, q2, q3, q4, kP, hkP, hkPi⟩ := Cond.selects_spec hsel
  cases hcls.symm.trans q1
  cases (State.methodFound?_of_named hnamed hy).symm.trans q2
  cases hnamed.symm.trans q3
  have hselP : selectMethod e.platform s.vm cellB.cls mk = .method mk := by rw [Launch.admits_selectMethod X.admits]; exact q4
  obtain ⟨vm₁, X₁, hstep₁⟩ := X.invokevirtual hexec hown hlink hnamed hmethM hstM hkP hkPi hy (a := b) (cell := cellB) hcell
    (fun z h => by rw [h] at hobj; cases hobj) hselP hmethM habM hkP hkPi (g := g) hg (argsL := argsL) (rest := rest) (hlen _ hsigM) hstack hdg
  obtain ⟨v, B, X', hpost, hsteps⟩ := hK m meth c ⟨T.setVm vm₁, locs, cells, slots⟩ { g with stack := rest } (.invokevirtual index) mk (Value.ref b :: argsL).toArray X₁ hg hsize hdg hW (X₁.named hnamed) (hpre vm₁ X₁.warmed)
  exact ⟨v, vm₁, B, X₁.warmed, X', hpost, fun target h => hstep₁ _ fun acts => by rw [doInvoke_state]; exact hsteps.trans h⟩
abbrev vx_CVW (R : Room) (s : State) (args : Array Value) (own C : String) (index : Nat) (y : MethodName) (bytes : ByteArray) (maxL : Nat) (ret : Option FieldType) (hh : List (Nat × Nat × Nat × Nat)) (ws : List Cond) (rm : Room) (mc ms n : Nat) : Prop :=
  (rm.cells = mc ∧ rm.slots = ms ∧ rm.frames + 1 ≤ R.frames ∧ 8 + (maxL + 11) + rm.locals ≤ R.locals ∧ (∀ w ∈ ws, ∀ (a' : Array Value) (U : State), s.WarmedH U.vm → w.before a' U = true) ∧ Cond.codeWith y bytes maxL ret hh ∈ ws) ∧
  (Cond.codeWith y bytes maxL ret hh).before args s = true ∧ (Cond.initialized y.cls).before args s = true ∧ (y.cls ≠ "java/lang/invoke/MethodHandle" ∧ y.cls ≠ "java/lang/invoke/VarHandle") ∧
  (∀ sig, parseMethodDescriptor y.desc = some sig → n = sig.parameters.length) ∧ (Cond.methodLink own index y).before args s = true ∧ (Cond.instanceMethod y).before args s = true ∧ (Cond.selects C y y).before args s = true
theorem vx_cwVW {own C : String} {index maxL mc ms : Nat} {y : MethodName} {bytes : ByteArray} {ret : Option FieldType} {hh : List (Nat × Nat × Nat × Nat)} {Ts ws ws' : List Cond} {rm : Room} (n : Nat) (ht : ∀ w ∈ Ts, w.before args s = true) (hT : GoodIn Ts (wsV own index C y ws)) (hw : ws = Cond.codeWith y bytes maxL ret hh :: ws') (hrc : rm.cells = mc) (hrs : rm.slots = ms)
    (hd : y.cls = C ∧ y.cls ≠ "java/lang/invoke/MethodHandle" ∧ y.cls ≠ "java/lang/invoke/VarHandle" ∧ (parseMethodDescriptor y.desc).map (fun d => d.parameters.length) = some n) (hR : rm.frames + 1 ≤ R.frames ∧ 8 + (maxL + 11) + rm.locals ≤ R.locals) :
    vx_CVW R s args own C index y bytes maxL ret hh ws rm mc ms n := by
  obtain ⟨hC, hd⟩ := hd
  subst hC
  have ok : ∀ w ∈ wsV own index y.cls y ws, w.before args s = true := fun w h => ht w (hT w h).1
  have hG : GoodIn Ts ws := fun w h => hT w (by unfold wsV; exact List.mem_append_right _ h)
  have hc : Cond.codeWith y bytes maxL ret hh ∈ ws := by rw [hw]; exact List.mem_cons_self
  refine ⟨⟨hrc, hrs, hR.1, hR.2, pay_in ht hG, hc⟩, ht _ (hG _ hc).1, ok _ (by simp [wsV]), ⟨hd.1, hd.2.1⟩, fun sig h => ?_, ok _ (by simp [wsV]), ok _ (by simp [wsV]), ok _ (by simp [wsV])⟩
  have h2 := hd.2.2
  rw [h] at h2
  exact (Option.some.inj h2).symm
theorem vx_runVW {y : MethodName} {bytes cc : ByteArray} {maxL nL mc ms n index : Nat} {ret : Option FieldType} {hh : List (Nat × Nat × Nat × Nat)} {ws : List Cond} {rm : Room} {Pc : Array Value → State → Prop} {Qc : Array Value → State → Outcome → State → Prop} {free : Addr → Prop} {Ts : List Cond} {own C : String} {b : Addr} {As rest : List Value} {g : JFrame}
    (S : CallFix p m c cc nL s args Ts own) (hM : Met l y ws rm Pc Qc mc ms free) (cw : vx_CVW R s args own C index y bytes maxL ret hh ws rm mc ms n) (hp : PreV s H C b Pc As)
    (hg : g.method = m) (hn : As.length = n) (hsize : g.locals.size = nL) (hstack : g.stack = As.reverse ++ .ref b :: rest) (hW : 2 * g.monitorRoom + (rest.map fun v => v.category).sum ≤ 8) (hdg : decode cc g.pc = .ok (.invokevirtual index, 3)) (hf : cells + mc ≤ R.cells ∧ slots + ms ≤ R.slots) :
    va_Run p l e R s m args below meth c H locs cells slots mc ms g rest (Qc (Value.ref b :: As).toArray) free := by
  obtain ⟨⟨hrc, hrs, hfr, hlo, hws, hcw⟩, hcode, hini, hy, hlen, hl, hin, hse⟩ := cw
  have hK : Back l R p e below s args y 3 8 (PreOf R mc ms Pc) (PostOf Qc mc ms free) := va_backW (hh := hh) (bytes := bytes) (maxL := maxL) (ret := ret) hM hp.1 hrc hrs hfr hlo hws hcw (fun a' U hW => word_at hW (Or.inl (by first | rfl | simp [Cond.onTables, Cond.keeps, Cond.steady])) hini)
  obtain ⟨hx, hb, hml, ho, -⟩ := S
  obtain ⟨-, ⟨cellB, hcB, hoB, hclB⟩, hPc⟩ := hp
  intro T hT X
  obtain ⟨v, vm₁, ⟨U', l2, c2, s2⟩, hW₁, X', ⟨g', mk, t, L, e1, e2, hq, h1, hL, h2, h3⟩, st⟩ := vx_callVW X hx (C := C) (hh := hh) (bytes := bytes) (maxL := maxL) (ret := ret) ho hl hin hse hcode hy hK (by rw [hT]; exact hcB) hoB hclB hg (hsize.trans hml.symm) (argsL := As) (rest := rest) (fun sig h => hn.trans (hlen sig h)) hstack hW (by rw [hb]; exact hdg)
    (fun vm₁ hW₁ => ⟨hf.1, hf.2, hPc (T.setVm vm₁) hT hW₁⟩)
  dsimp only [Pt.U, Pt.locs, Pt.cells, Pt.slots] at X' e1 e2 h1 h2 h3 st
  subst h1; subst h2; subst h3
  exact ⟨v, (T.setVm vm₁).calling g' mk (Value.ref b :: As).toArray, t, U', L, hT, X', hL, e1, e2, hq, st⟩
section
variable {y : MethodName} {bytes cc : ByteArray} {maxL nL mc ms n index : Nat} {ret : Option FieldType} {ws : List Cond} {rm : Room} {Pc : Array Value → State → Prop} {Qc : Array Value → State → Outcome → State → Prop} {XC : String → State → State → Prop} {free : Addr → Prop} {Ts : List Cond} {own C : String} {b : Addr} {As rest : List Value} {g : JFrame}
theorem vx_runVX {hh : List (Nat × Nat × Nat × Nat)} (S : CallFix p m c cc nL s args Ts own) (hM : vx_Met l y ws rm Pc Qc XC mc ms free) (cw : vx_CVW R s args own C index y bytes maxL ret hh ws rm mc ms n) (hp : PreV s H C b Pc As)
    (hg : g.method = m) (hn : As.length = n) (hsize : g.locals.size = nL) (hstack : g.stack = As.reverse ++ .ref b :: rest) (hW : 2 * g.monitorRoom + (rest.map fun v => v.category).sum ≤ 8) (hdg : decode cc g.pc = .ok (.invokevirtual index, 3)) (hf : cells + mc ≤ R.cells ∧ slots + ms ≤ R.slots) :
    vx_Run p l e R s m args below meth c H locs cells slots mc ms g rest (Qc (Value.ref b :: As).toArray) XC free := by
  obtain ⟨⟨hrc, hrs, hfr, hlo, hws, hcw⟩, hcode, hini, hy, hlen, hl, hin, hse⟩ := cw
  have hK : vx_Back l R p e below s args y 3 8 (PreOf R mc ms Pc) (PostOf Qc mc ms free) (vx_Post XC mc ms free) := vx_backW (hh := hh) (bytes := bytes) (maxL := maxL) (ret := ret) hM hp.1 hrc hrs hfr hlo hws hcw (fun a' U hW => word_at hW (Or.inl (by first | rfl | simp [Cond.onTables, Cond.keeps, Cond.steady])) hini)
  obtain ⟨hx, hb, hml, ho, -⟩ := S
  obtain ⟨-, ⟨cellB, hcB, hoB, hclB⟩, hPc⟩ := hp
  intro T hT X
  rcases vx_callVX X hx (C := C) (hh := hh) (bytes := bytes) (maxL := maxL) (ret := ret) ho hl hin hse hcode hy hK (by rw [hT]; exact hcB) hoB hclB hg (hsize.trans hml.symm) (argsL := As) (rest := rest) (fun sig h => hn.trans (hlen sig h)) hstack hW (by rw [hb]; exact hdg)
    (fun vm₁ hW₁ => ⟨hf.1, hf.2, hPc (T.setVm vm₁) hT hW₁⟩) with ⟨v, vm₁, ⟨U', l2, c2, s2⟩, hW₁, X', ⟨g', mk, t, L, e1, e2, hq, h1, hL, h2, h3⟩, st⟩ | ⟨q, vm₁, ⟨U', l2, c2, s2⟩, hW₁, X', ⟨g', mk, t, L, E, ce, e1, e2, hq, hce, hcv, hcl, h1, hL, h2, h3⟩, st⟩
  · dsimp only [Pt.U, Pt.locs, Pt.cells, Pt.slots] at X' e1 e2 h1 h2 h3 st
    subst h1; subst h2; subst h3
    exact Or.inl ⟨v, (T.setVm vm₁).calling g' mk (Value.ref b :: As).toArray, t, U', L, hT, X', hL, e1, e2, hq, st⟩
  · dsimp only [Pt.U, Pt.locs, Pt.cells, Pt.slots] at X' e1 e2 h1 h2 h3 st hcl
    subst h1; subst h2; subst h3
    exact Or.inr ⟨q, (T.setVm vm₁).calling g' mk (Value.ref b :: As).toArray, t, U', L, E, ce, hT, X', hL, e1, e2, hq, hce, hcv, vx_cls hW₁ hcl, st⟩
theorem vx_runSX {hh : List (Nat × Nat × Nat × Nat)} (S : CallFix p m c cc nL s args Ts own) (hM : vx_Met l y ws rm Pc Qc XC mc ms free) (cw : vx_CSW R s args own index y bytes maxL ret hh ws rm mc ms n) (hp : PreS s H Pc As)
    (hg : g.method = m) (hn : As.length = n) (hsize : g.locals.size = nL) (hstack : g.stack = As.reverse ++ rest) (hW : 2 * g.monitorRoom + (rest.map fun v => v.category).sum ≤ 8) (hdg : decode cc g.pc = .ok (.invokestatic index, 3)) (hf : cells + mc ≤ R.cells ∧ slots + ms ≤ R.slots) :
    vx_Run p l e R s m args below meth c H locs cells slots mc ms g rest (Qc As.toArray) XC free := by
  obtain ⟨⟨hrc, hrs, hfr, hlo, hws, hcw⟩, hcode, hini, hy, hlen, hl, hstt⟩ := cw
  have hK : vx_Back l R p e below s args y 3 8 (PreOf R mc ms Pc) (PostOf Qc mc ms free) (vx_Post XC mc ms free) := vx_backW (hh := hh) (bytes := bytes) (maxL := maxL) (ret := ret) hM hp.1 hrc hrs hfr hlo hws hcw (fun a' U hW => word_at hW (Or.inl (by first | rfl | simp [Cond.onTables, Cond.keeps, Cond.steady])) hini)
  obtain ⟨hx, hb, hml, ho, -⟩ := S
  intro T hT X
  rcases vx_callSX X hx (hh := hh) (bytes := bytes) (maxL := maxL) (ret := ret) ho hl hstt hini hcode hy hK hg (hsize.trans hml.symm) (argsL := As) (rest := rest) (fun sig h => hn.trans (hlen sig h)) hstack hW (by rw [hb]; exact hdg)
    (fun vm₁ hW₁ => ⟨hf.1, hf.2, hp.2 (T.setVm vm₁) hT hW₁⟩) with ⟨v, vm₁, ⟨U', l2, c2, s2⟩, hW₁, X', ⟨g', mk, t, L, e1, e2, hq, h1, hL, h2, h3⟩, st⟩ | ⟨q, vm₁, ⟨U', l2, c2, s2⟩, hW₁, X', ⟨g', mk, t, L, E, ce, e1, e2, hq, hce, hcv, hcl, h1, hL, h2, h3⟩, st⟩
  · dsimp only [Pt.U, Pt.locs, Pt.cells, Pt.slots] at X' e1 e2 h1 h2 h3 st
    subst h1; subst h2; subst h3
    exact Or.inl ⟨v, (T.setVm vm₁).calling g' mk As.toArray, t, U', L, hT, X', hL, e1, e2, hq, st⟩
  · dsimp only [Pt.U, Pt.locs, Pt.cells, Pt.slots] at X' e1 e2 h1 h2 h3 st hcl
    subst h1; subst h2; subst h3
    exact Or.inr ⟨q, (T.setVm vm₁).calling g' mk As.toArray, t, U', L, E, ce, hT, X', hL, e1, e2, hq, hce, hcv, vx_cls hW₁ hcl, st⟩
end
end VXH
theorem vx_ofWH {l : Launch} {y : MethodName} {ws ws' : List Cond} {rm : Room} {Pc : Array Value → State → Prop} {Qc : Array Value → State → Outcome → State → Prop} {XC : String → State → State → Prop} {mc ms : Nat} {free : Addr → Prop} {cc : ByteArray} {maxL : Nat} {ret : Option FieldType} {hh : List (Nat × Nat × Nat × Nat)}
    (hy : plainName y.cls = true) (hw : ws = Cond.codeWith y cc maxL ret hh :: ws')
    (body : ∀ p e s m args below meth c s₁, BodyLoose p l y (headSpec ws rm) cc maxL ret e s m args below meth c s₁ → c.maxLocals = maxL → Pc args s →
      W p l e (headSpec ws rm).room s m args below meth c s.heap [] 0 0 (vx_MQ below Qc XC args s mc ms free) (entryFrame m args maxL)) : vx_Met l y ws rm Pc Qc XC mc ms free := by
  refine MetFree.of_bodyS (code := cc) (maxLocals := maxL) (ret := ret) hy ?_ ?_
  · intro args s m h hn
    obtain ⟨m9, meth, c, hn9, h1, h2, h3, h4, -, h5, h6, -⟩ := Cond.codeWith_spec (atoms_spec (ws := ws) h _ (by rw [hw]; exact List.mem_cons_self))
    cases hn.symm.trans hn9
    exact ⟨meth, c, h1, h2, h3, h4, h5, h6⟩
  · intro p e s m args below meth c s₁ B hml hP _
    have hh0 : s₁.heap = s.heap := by rw [B.state]; rfl
    obtain ⟨t, a1, o, b1, b2, b3⟩ := body p e s m args below meth c s₁ B hml hP s₁ hh0 (Stand.of_body B)
    exact ⟨t, o, a1, b1, b2, b3⟩
/-! ===== END ===== -/
end
section
/-- the words of the tables that stay -/
def tw : List Cond := lw_tbl.filter goodWord
theorem tw_good : GoodIn tw tw := fun w h => ⟨h, good_of_word (List.mem_filter.mp h).2⟩
section KC
variable {p : Program} {l : Launch} {e : Env} {R : Room} {s : State} {m : MethodId} {args : Array Value} {below : List Frame} {meth : Method} {c : Code} {Q : State → Prop}
variable {cc : ByteArray} {nL : Nat} {own : String} {D : va_G} {cl : List vw_C} {tys : List (ClassId × FieldType)} {A : Nat → Prop}
variable {pc : Nat} {lv lv' : List (Nat × Value)} {st : List Value} {ws ws' : va_W} {u : Nat × Nat}
/-- the fixed surroundings of a walk -/
def kc_C (p : Program) (s : State) (m : MethodId) (args : Array Value) (c : Code) (cc : ByteArray) (nL : Nat) (own : String) (D : va_G) (cl : List vw_C) (tys : List (ClassId × FieldType)) (A : Nat → Prop) : Prop :=
  p.tables.exec = Jvm.exec ∧ c.code = cc ∧ c.maxLocals = nL ∧ s.vm.findClass own = some m.cls ∧ (∀ w ∈ tw, w.before args s = true) ∧ va_K D cl tys s ∧ ∀ q : Nat, s.heap.size ≤ q → A q
/-- the walk goes on from pc, from every heap that holds the world ws -/
def kc_W (p : Program) (l : Launch) (e : Env) (R : Room) (s : State) (m : MethodId) (args : Array Value) (below : List Frame) (meth : Method) (c : Code) (D : va_G) (cl : List vw_C) (A : Nat → Prop) (nL : Nat) (Q : State → Prop) (pc : Nat) (lv : List (Nat × Value)) (st : List Value) (ws : va_W) (u : Nat × Nat) : Prop :=
  ∀ (H : Heap) (locs : List Loc) (ls : Array Slot), va_P D cl ws H → va_D A ws → va_S A s.heap H locs → lv_has ls nL lv → W p l e R s m args below meth c H locs u.1 u.2 Q (F0 m pc ls st)
theorem kr_iconst (h : kc_C p s m args c cc nL own D cl tys A) {n : Int} {v : Int32} (hdg : decode cc pc = .ok (.iconst n, 1)) (hv : Int32.ofInt n = v) (kk : kc_W p l e R s m args below meth c D cl A nL Q (pc + 1) lv (.int v :: st) ws u) : kc_W p l e R s m args below meth c D cl A nL Q pc lv st ws u :=
  fun H locs ls hP hD hS hw => lv_iconst h.1 h.2.1 hdg hv (kk H locs ls hP hD hS hw)
theorem kr_bipush (h : kc_C p s m args c cc nL own D cl tys A) {n : Int} {v : Int32} (hdg : decode cc pc = .ok (.bipush n, 2)) (hv : (Int8.ofInt n).toInt32 = v) (kk : kc_W p l e R s m args below meth c D cl A nL Q (pc + 2) lv (.int v :: st) ws u) : kc_W p l e R s m args below meth c D cl A nL Q pc lv st ws u :=
  fun H locs ls hP hD hS hw => lv_bipush h.1 h.2.1 hdg hv (kk H locs ls hP hD hS hw)
theorem kr_sipush (h : kc_C p s m args c cc nL own D cl tys A) {n : Int} {v : Int32} (hdg : decode cc pc = .ok (.sipush n, 3)) (hv : (Int16.ofInt n).toInt32 = v) (kk : kc_W p l e R s m args below meth c D cl A nL Q (pc + 3) lv (.int v :: st) ws u) : kc_W p l e R s m args below meth c D cl A nL Q pc lv st ws u :=
  fun H locs ls hP hD hS hw => lv_sipush h.1 h.2.1 hdg hv (kk H locs ls hP hD hS hw)
theorem kr_iload_n (h : kc_C p s m args c cc nL own D cl tys A) {k : Fin 4} {i : Nat} {x : Int32} (hdg : decode cc pc = .ok (.iload_n k, 1)) (hi : (k : Nat) = i) (j : Nat) (hl : lv[j]? = some (i, .int x)) (kk : kc_W p l e R s m args below meth c D cl A nL Q (pc + 1) lv (.int x :: st) ws u) : kc_W p l e R s m args below meth c D cl A nL Q pc lv st ws u :=
  fun H locs ls hP hD hS hv => lv_iload_n h.1 h.2.1 hdg hi (lv_at hv j hl) (kk H locs ls hP hD hS hv)
theorem kr_iload (h : kc_C p s m args c cc nL own D cl tys A) {i : Nat} {x : Int32} (hdg : decode cc pc = .ok (.iload i, 2)) (j : Nat) (hl : lv[j]? = some (i, .int x)) (kk : kc_W p l e R s m args below meth c D cl A nL Q (pc + 2) lv (.int x :: st) ws u) : kc_W p l e R s m args below meth c D cl A nL Q pc lv st ws u :=
  fun H locs ls hP hD hS hv => lv_iload h.1 h.2.1 hdg (lv_at hv j hl) (kk H locs ls hP hD hS hv)
theorem kr_aload_n (h : kc_C p s m args c cc nL own D cl tys A) {k : Fin 4} {i : Nat} {x : Nat} (hdg : decode cc pc = .ok (.aload_n k, 1)) (hi : (k : Nat) = i) (j : Nat) (hl : lv[j]? = some (i, .ref x)) (kk : kc_W p l e R s m args below meth c D cl A nL Q (pc + 1) lv (.ref x :: st) ws u) : kc_W p l e R s m args below meth c D cl A nL Q pc lv st ws u :=
  fun H locs ls hP hD hS hv => lv_aload_n h.1 h.2.1 hdg hi (lv_at hv j hl) (kk H locs ls hP hD hS hv)
theorem kr_aload (h : kc_C p s m args c cc nL own D cl tys A) {i : Nat} {x : Nat} (hdg : decode cc pc = .ok (.aload i, 2)) (j : Nat) (hl : lv[j]? = some (i, .ref x)) (kk : kc_W p l e R s m args below meth c D cl A nL Q (pc + 2) lv (.ref x :: st) ws u) : kc_W p l e R s m args below meth c D cl A nL Q pc lv st ws u :=
  fun H locs ls hP hD hS hv => lv_aload h.1 h.2.1 hdg (lv_at hv j hl) (kk H locs ls hP hD hS hv)
theorem kr_istore_n (h : kc_C p s m args c cc nL own D cl tys A) {k : Fin 4} {i : Nat} {x : Int32} (hdg : decode cc pc = .ok (.istore_n k, 1)) (hi : (k : Nat) = i) (hn : i < nL) (hl : (i, Value.int x) :: lv.filter (fun q => !(q.1 == i) && !(q.1 + 1 == i && q.2.category == 2)) = lv') (kk : kc_W p l e R s m args below meth c D cl A nL Q (pc + 1) lv' st ws u) : kc_W p l e R s m args below meth c D cl A nL Q pc lv (.int x :: st) ws u :=
  fun H locs ls hP hD hS hv => lv_istore_n h.1 h.2.1 hdg hi hv hn hl (fun ls2 hv2 => kk H locs ls2 hP hD hS hv2)
theorem kr_istore (h : kc_C p s m args c cc nL own D cl tys A) {i : Nat} {x : Int32} (hdg : decode cc pc = .ok (.istore i, 2)) (hn : i < nL) (hl : (i, Value.int x) :: lv.filter (fun q => !(q.1 == i) && !(q.1 + 1 == i && q.2.category == 2)) = lv') (kk : kc_W p l e R s m args below meth c D cl A nL Q (pc + 2) lv' st ws u) : kc_W p l e R s m args below meth c D cl A nL Q pc lv (.int x :: st) ws u :=
  fun H locs ls hP hD hS hv => lv_istore h.1 h.2.1 hdg hv hn hl (fun ls2 hv2 => kk H locs ls2 hP hD hS hv2)
theorem kr_astore_n (h : kc_C p s m args c cc nL own D cl tys A) {k : Fin 4} {i : Nat} {x : Nat} (hdg : decode cc pc = .ok (.astore_n k, 1)) (hi : (k : Nat) = i) (hn : i < nL) (hl : (i, Value.ref x) :: lv.filter (fun q => !(q.1 == i) && !(q.1 + 1 == i && q.2.category == 2)) = lv') (kk : kc_W p l e R s m args below meth c D cl A nL Q (pc + 1) lv' st ws u) : kc_W p l e R s m args below meth c D cl A nL Q pc lv (.ref x :: st) ws u :=
  fun H locs ls hP hD hS hv => lv_astore_n h.1 h.2.1 hdg hi hv hn hl (fun ls2 hv2 => kk H locs ls2 hP hD hS hv2)
theorem kr_astore (h : kc_C p s m args c cc nL own D cl tys A) {i : Nat} {x : Nat} (hdg : decode cc pc = .ok (.astore i, 2)) (hn : i < nL) (hl : (i, Value.ref x) :: lv.filter (fun q => !(q.1 == i) && !(q.1 + 1 == i && q.2.category == 2)) = lv') (kk : kc_W p l e R s m args below meth c D cl A nL Q (pc + 2) lv' st ws u) : kc_W p l e R s m args below meth c D cl A nL Q pc lv (.ref x :: st) ws u :=
  fun H locs ls hP hD hS hv => lv_astore h.1 h.2.1 hdg hv hn hl (fun ls2 hv2 => kk H locs ls2 hP hD hS hv2)
theorem kr_iinc (h : kc_C p s m args c cc nL own D cl tys A) {i k : Nat} {n : Int} {x v : Int32} (hdg : decode cc pc = .ok (.iinc i n, 3)) (hk : lv[k]? = some (i, .int x)) (hx : x + Int32.ofInt n = v) (hn : i < nL) (hl : (i, Value.int v) :: lv.filter (fun q => !(q.1 == i) && !(q.1 + 1 == i && q.2.category == 2)) = lv') (kk : kc_W p l e R s m args below meth c D cl A nL Q (pc + 3) lv' st ws u) : kc_W p l e R s m args below meth c D cl A nL Q pc lv st ws u :=
  fun H locs ls hP hD hS hv => lv_iinc h.1 h.2.1 hdg hv hk hx hn hl (fun ls2 hv2 => kk H locs ls2 hP hD hS hv2)
theorem kr_iadd (h : kc_C p s m args c cc nL own D cl tys A) {x y : Int32} (hdg : decode cc pc = .ok (.iadd, 1)) (kk : ∀ z : Int32, z = x + y → kc_W p l e R s m args below meth c D cl A nL Q (pc + 1) lv (.int z :: st) ws u) : kc_W p l e R s m args below meth c D cl A nL Q pc lv (.int y :: .int x :: st) ws u :=
  fun H locs ls hP hD hS hv => lv_iadd h.1 h.2.1 hdg (kk _ rfl H locs ls hP hD hS hv)
theorem kr_isub (h : kc_C p s m args c cc nL own D cl tys A) {x y : Int32} (hdg : decode cc pc = .ok (.isub, 1)) (kk : ∀ z : Int32, z = x - y → kc_W p l e R s m args below meth c D cl A nL Q (pc + 1) lv (.int z :: st) ws u) : kc_W p l e R s m args below meth c D cl A nL Q pc lv (.int y :: .int x :: st) ws u :=
  fun H locs ls hP hD hS hv => lv_isub h.1 h.2.1 hdg (kk _ rfl H locs ls hP hD hS hv)
theorem kr_imul (h : kc_C p s m args c cc nL own D cl tys A) {x y : Int32} (hdg : decode cc pc = .ok (.imul, 1)) (kk : ∀ z : Int32, z = x * y → kc_W p l e R s m args below meth c D cl A nL Q (pc + 1) lv (.int z :: st) ws u) : kc_W p l e R s m args below meth c D cl A nL Q pc lv (.int y :: .int x :: st) ws u :=
  fun H locs ls hP hD hS hv => lv_imul h.1 h.2.1 hdg (kk _ rfl H locs ls hP hD hS hv)
theorem kr_iand (h : kc_C p s m args c cc nL own D cl tys A) {x y : Int32} (hdg : decode cc pc = .ok (.iand, 1)) (kk : ∀ z : Int32, z = x &&& y → kc_W p l e R s m args below meth c D cl A nL Q (pc + 1) lv (.int z :: st) ws u) : kc_W p l e R s m args below meth c D cl A nL Q pc lv (.int y :: .int x :: st) ws u :=
  fun H locs ls hP hD hS hv => lv_iand h.1 h.2.1 hdg (kk _ rfl H locs ls hP hD hS hv)
theorem kr_ior (h : kc_C p s m args c cc nL own D cl tys A) {x y : Int32} (hdg : decode cc pc = .ok (.ior, 1)) (kk : ∀ z : Int32, z = x ||| y → kc_W p l e R s m args below meth c D cl A nL Q (pc + 1) lv (.int z :: st) ws u) : kc_W p l e R s m args below meth c D cl A nL Q pc lv (.int y :: .int x :: st) ws u :=
  fun H locs ls hP hD hS hv => lv_ior h.1 h.2.1 hdg (kk _ rfl H locs ls hP hD hS hv)
theorem kr_ixor (h : kc_C p s m args c cc nL own D cl tys A) {x y : Int32} (hdg : decode cc pc = .ok (.ixor, 1)) (kk : ∀ z : Int32, z = x ^^^ y → kc_W p l e R s m args below meth c D cl A nL Q (pc + 1) lv (.int z :: st) ws u) : kc_W p l e R s m args below meth c D cl A nL Q pc lv (.int y :: .int x :: st) ws u :=
  fun H locs ls hP hD hS hv => lv_ixor h.1 h.2.1 hdg (kk _ rfl H locs ls hP hD hS hv)
theorem kr_ishl (h : kc_C p s m args c cc nL own D cl tys A) {x y : Int32} (hdg : decode cc pc = .ok (.ishl, 1)) (kk : ∀ z : Int32, z = x <<< (y &&& 31) → kc_W p l e R s m args below meth c D cl A nL Q (pc + 1) lv (.int z :: st) ws u) : kc_W p l e R s m args below meth c D cl A nL Q pc lv (.int y :: .int x :: st) ws u :=
  fun H locs ls hP hD hS hv => lv_ishl h.1 h.2.1 hdg (kk _ rfl H locs ls hP hD hS hv)
theorem kr_ishr (h : kc_C p s m args c cc nL own D cl tys A) {x y : Int32} (hdg : decode cc pc = .ok (.ishr, 1)) (kk : ∀ z : Int32, z = x >>> (y &&& 31) → kc_W p l e R s m args below meth c D cl A nL Q (pc + 1) lv (.int z :: st) ws u) : kc_W p l e R s m args below meth c D cl A nL Q pc lv (.int y :: .int x :: st) ws u :=
  fun H locs ls hP hD hS hv => lv_ishr h.1 h.2.1 hdg (kk _ rfl H locs ls hP hD hS hv)
theorem kr_idiv (h : kc_C p s m args c cc nL own D cl tys A) {x y : Int32} (hdg : decode cc pc = .ok (.idiv, 1)) (hne : ¬ y = 0) (kk : ∀ z : Int32, z = x / y → kc_W p l e R s m args below meth c D cl A nL Q (pc + 1) lv (.int z :: st) ws u) : kc_W p l e R s m args below meth c D cl A nL Q pc lv (.int y :: .int x :: st) ws u :=
  fun H locs ls hP hD hS hv => lv_idiv h.1 h.2.1 hdg hne (kk _ rfl H locs ls hP hD hS hv)
theorem kr_irem (h : kc_C p s m args c cc nL own D cl tys A) {x y : Int32} (hdg : decode cc pc = .ok (.irem, 1)) (hne : ¬ y = 0) (kk : ∀ z : Int32, z = x - x / y * y → kc_W p l e R s m args below meth c D cl A nL Q (pc + 1) lv (.int z :: st) ws u) : kc_W p l e R s m args below meth c D cl A nL Q pc lv (.int y :: .int x :: st) ws u :=
  fun H locs ls hP hD hS hv => lv_irem h.1 h.2.1 hdg hne (kk _ rfl H locs ls hP hD hS hv)
theorem kr_ineg (h : kc_C p s m args c cc nL own D cl tys A) {x : Int32} (hdg : decode cc pc = .ok (.ineg, 1)) (kk : ∀ z : Int32, z = -x → kc_W p l e R s m args below meth c D cl A nL Q (pc + 1) lv (.int z :: st) ws u) : kc_W p l e R s m args below meth c D cl A nL Q pc lv (.int x :: st) ws u :=
  fun H locs ls hP hD hS hv => lv_ineg h.1 h.2.1 hdg (kk _ rfl H locs ls hP hD hS hv)
theorem kr_i2l (h : kc_C p s m args c cc nL own D cl tys A) {x : Int32} (hdg : decode cc pc = .ok (.i2l, 1)) (kk : ∀ z : Int64, z = x.toInt64 → kc_W p l e R s m args below meth c D cl A nL Q (pc + 1) lv (.long z :: st) ws u) : kc_W p l e R s m args below meth c D cl A nL Q pc lv (.int x :: st) ws u :=
  fun H locs ls hP hD hS hv => lv_i2l h.1 h.2.1 hdg rfl (kk _ rfl H locs ls hP hD hS hv)
theorem kr_dup (h : kc_C p s m args c cc nL own D cl tys A) {v : Value} (hdg : decode cc pc = .ok (.dup, 1)) (hc : v.category = 1) (kk : kc_W p l e R s m args below meth c D cl A nL Q (pc + 1) lv (v :: v :: st) ws u) : kc_W p l e R s m args below meth c D cl A nL Q pc lv (v :: st) ws u :=
  fun H locs ls hP hD hS hv => lv_dup h.1 h.2.1 hdg hc (kk H locs ls hP hD hS hv)
theorem kr_pop (h : kc_C p s m args c cc nL own D cl tys A) {v : Value} (hdg : decode cc pc = .ok (.pop, 1)) (hc : v.category = 1) (kk : kc_W p l e R s m args below meth c D cl A nL Q (pc + 1) lv st ws u) : kc_W p l e R s m args below meth c D cl A nL Q pc lv (v :: st) ws u :=
  fun H locs ls hP hD hS hv => lv_pop h.1 h.2.1 hdg hc (kk H locs ls hP hD hS hv)
theorem kr_dup2 (h : kc_C p s m args c cc nL own D cl tys A) {v v2 : Value} (hdg : decode cc pc = .ok (.dup2, 1)) (hc : v.category = 1) (hc2 : v2.category = 1) (kk : kc_W p l e R s m args below meth c D cl A nL Q (pc + 1) lv (v :: v2 :: v :: v2 :: st) ws u) : kc_W p l e R s m args below meth c D cl A nL Q pc lv (v :: v2 :: st) ws u :=
  fun H locs ls hP hD hS hv => lv_dup2_11 h.1 h.2.1 hdg hc hc2 (kk H locs ls hP hD hS hv)
theorem kr_dup_x1 (h : kc_C p s m args c cc nL own D cl tys A) {v v2 : Value} (hdg : decode cc pc = .ok (.dup_x1, 1)) (hc : v.category = 1) (hc2 : v2.category = 1) (kk : kc_W p l e R s m args below meth c D cl A nL Q (pc + 1) lv (v :: v2 :: v :: st) ws u) : kc_W p l e R s m args below meth c D cl A nL Q pc lv (v :: v2 :: st) ws u :=
  fun H locs ls hP hD hS hv => lv_dup_x1 h.1 h.2.1 hdg hc hc2 (kk H locs ls hP hD hS hv)
theorem kr_dup_x2 (h : kc_C p s m args c cc nL own D cl tys A) {v v2 v3 : Value} (hdg : decode cc pc = .ok (.dup_x2, 1)) (hc : v.category = 1) (hc2 : v2.category = 1) (hc3 : v3.category = 1) (kk : kc_W p l e R s m args below meth c D cl A nL Q (pc + 1) lv (v :: v2 :: v3 :: v :: st) ws u) : kc_W p l e R s m args below meth c D cl A nL Q pc lv (v :: v2 :: v3 :: st) ws u :=
  fun H locs ls hP hD hS hv => lv_dup_x2 h.1 h.2.1 hdg hc hc2 hc3 (kk H locs ls hP hD hS hv)
theorem kr_if_eq (h : kc_C p s m args c cc nL own D cl tys A) {x : Int32} {off : Int} (tgt : Nat) (hdg : decode cc pc = .ok (.ifCond .eq off, 3)) (ht : (pc : Int) + off = (tgt : Int)) (kt : x = 0 → kc_W p l e R s m args below meth c D cl A nL Q tgt lv st ws u) (kf : ¬ x = 0 → kc_W p l e R s m args below meth c D cl A nL Q (pc + 3) lv st ws u) : kc_W p l e R s m args below meth c D cl A nL Q pc lv (.int x :: st) ws u :=
  fun H locs ls hP hD hS hv => lv_if_eq h.1 h.2.1 hdg ht (fun z => kt z H locs ls hP hD hS hv) (fun z => kf z H locs ls hP hD hS hv)
theorem kr_icmp_eq (h : kc_C p s m args c cc nL own D cl tys A) {x y : Int32} {off : Int} (tgt : Nat) (hdg : decode cc pc = .ok (.if_icmp .eq off, 3)) (ht : (pc : Int) + off = (tgt : Int)) (kt : x = y → kc_W p l e R s m args below meth c D cl A nL Q tgt lv st ws u) (kf : ¬ x = y → kc_W p l e R s m args below meth c D cl A nL Q (pc + 3) lv st ws u) : kc_W p l e R s m args below meth c D cl A nL Q pc lv (.int y :: .int x :: st) ws u :=
  fun H locs ls hP hD hS hv => lv_icmp_eq h.1 h.2.1 hdg ht (fun z => kt z H locs ls hP hD hS hv) (fun z => kf z H locs ls hP hD hS hv)
theorem kr_if_ne (h : kc_C p s m args c cc nL own D cl tys A) {x : Int32} {off : Int} (tgt : Nat) (hdg : decode cc pc = .ok (.ifCond .ne off, 3)) (ht : (pc : Int) + off = (tgt : Int)) (kt : ¬ x = 0 → kc_W p l e R s m args below meth c D cl A nL Q tgt lv st ws u) (kf : x = 0 → kc_W p l e R s m args below meth c D cl A nL Q (pc + 3) lv st ws u) : kc_W p l e R s m args below meth c D cl A nL Q pc lv (.int x :: st) ws u :=
  fun H locs ls hP hD hS hv => lv_if_ne h.1 h.2.1 hdg ht (fun z => kt z H locs ls hP hD hS hv) (fun z => kf z H locs ls hP hD hS hv)
theorem kr_icmp_ne (h : kc_C p s m args c cc nL own D cl tys A) {x y : Int32} {off : Int} (tgt : Nat) (hdg : decode cc pc = .ok (.if_icmp .ne off, 3)) (ht : (pc : Int) + off = (tgt : Int)) (kt : ¬ x = y → kc_W p l e R s m args below meth c D cl A nL Q tgt lv st ws u) (kf : x = y → kc_W p l e R s m args below meth c D cl A nL Q (pc + 3) lv st ws u) : kc_W p l e R s m args below meth c D cl A nL Q pc lv (.int y :: .int x :: st) ws u :=
  fun H locs ls hP hD hS hv => lv_icmp_ne h.1 h.2.1 hdg ht (fun z => kt z H locs ls hP hD hS hv) (fun z => kf z H locs ls hP hD hS hv)
theorem kr_if_lt (h : kc_C p s m args c cc nL own D cl tys A) {x : Int32} {off : Int} (tgt : Nat) (hdg : decode cc pc = .ok (.ifCond .lt off, 3)) (ht : (pc : Int) + off = (tgt : Int)) (kt : x < 0 → kc_W p l e R s m args below meth c D cl A nL Q tgt lv st ws u) (kf : ¬ x < 0 → kc_W p l e R s m args below meth c D cl A nL Q (pc + 3) lv st ws u) : kc_W p l e R s m args below meth c D cl A nL Q pc lv (.int x :: st) ws u :=
  fun H locs ls hP hD hS hv => lv_if_lt h.1 h.2.1 hdg ht (fun z => kt z H locs ls hP hD hS hv) (fun z => kf z H locs ls hP hD hS hv)
theorem kr_icmp_lt (h : kc_C p s m args c cc nL own D cl tys A) {x y : Int32} {off : Int} (tgt : Nat) (hdg : decode cc pc = .ok (.if_icmp .lt off, 3)) (ht : (pc : Int) + off = (tgt : Int)) (kt : x < y → kc_W p l e R s m args below meth c D cl A nL Q tgt lv st ws u) (kf : ¬ x < y → kc_W p l e R s m args below meth c D cl A nL Q (pc + 3) lv st ws u) : kc_W p l e R s m args below meth c D cl A nL Q pc lv (.int y :: .int x :: st) ws u :=
  fun H locs ls hP hD hS hv => lv_icmp_lt h.1 h.2.1 hdg ht (fun z => kt z H locs ls hP hD hS hv) (fun z => kf z H locs ls hP hD hS hv)
theorem kr_if_ge (h : kc_C p s m args c cc nL own D cl tys A) {x : Int32} {off : Int} (tgt : Nat) (hdg : decode cc pc = .ok (.ifCond .ge off, 3)) (ht : (pc : Int) + off = (tgt : Int)) (kt : 0 ≤ x → kc_W p l e R s m args below meth c D cl A nL Q tgt lv st ws u) (kf : ¬ 0 ≤ x → kc_W p l e R s m args below meth c D cl A nL Q (pc + 3) lv st ws u) : kc_W p l e R s m args below meth c D cl A nL Q pc lv (.int x :: st) ws u :=
  fun H locs ls hP hD hS hv => lv_if_ge h.1 h.2.1 hdg ht (fun z => kt z H locs ls hP hD hS hv) (fun z => kf z H locs ls hP hD hS hv)
theorem kr_icmp_ge (h : kc_C p s m args c cc nL own D cl tys A) {x y : Int32} {off : Int} (tgt : Nat) (hdg : decode cc pc = .ok (.if_icmp .ge off, 3)) (ht : (pc : Int) + off = (tgt : Int)) (kt : y ≤ x → kc_W p l e R s m args below meth c D cl A nL Q tgt lv st ws u) (kf : ¬ y ≤ x → kc_W p l e R s m args below meth c D cl A nL Q (pc + 3) lv st ws u) : kc_W p l e R s m args below meth c D cl A nL Q pc lv (.int y :: .int x :: st) ws u :=
  fun H locs ls hP hD hS hv => lv_icmp_ge h.1 h.2.1 hdg ht (fun z => kt z H locs ls hP hD hS hv) (fun z => kf z H locs ls hP hD hS hv)
theorem kr_if_gt (h : kc_C p s m args c cc nL own D cl tys A) {x : Int32} {off : Int} (tgt : Nat) (hdg : decode cc pc = .ok (.ifCond .gt off, 3)) (ht : (pc : Int) + off = (tgt : Int)) (kt : 0 < x → kc_W p l e R s m args below meth c D cl A nL Q tgt lv st ws u) (kf : ¬ 0 < x → kc_W p l e R s m args below meth c D cl A nL Q (pc + 3) lv st ws u) : kc_W p l e R s m args below meth c D cl A nL Q pc lv (.int x :: st) ws u :=
  fun H locs ls hP hD hS hv => lv_if_gt h.1 h.2.1 hdg ht (fun z => kt z H locs ls hP hD hS hv) (fun z => kf z H locs ls hP hD hS hv)
theorem kr_icmp_gt (h : kc_C p s m args c cc nL own D cl tys A) {x y : Int32} {off : Int} (tgt : Nat) (hdg : decode cc pc = .ok (.if_icmp .gt off, 3)) (ht : (pc : Int) + off = (tgt : Int)) (kt : y < x → kc_W p l e R s m args below meth c D cl A nL Q tgt lv st ws u) (kf : ¬ y < x → kc_W p l e R s m args below meth c D cl A nL Q (pc + 3) lv st ws u) : kc_W p l e R s m args below meth c D cl A nL Q pc lv (.int y :: .int x :: st) ws u :=
  fun H locs ls hP hD hS hv => lv_icmp_gt h.1 h.2.1 hdg ht (fun z => kt z H locs ls hP hD hS hv) (fun z => kf z H locs ls hP hD hS hv)
theorem kr_if_le (h : kc_C p s m args c cc nL own D cl tys A) {x : Int32} {off : Int} (tgt : Nat) (hdg : decode cc pc = .ok (.ifCond .le off, 3)) (ht : (pc : Int) + off = (tgt : Int)) (kt : x ≤ 0 → kc_W p l e R s m args below meth c D cl A nL Q tgt lv st ws u) (kf : ¬ x ≤ 0 → kc_W p l e R s m args below meth c D cl A nL Q (pc + 3) lv st ws u) : kc_W p l e R s m args below meth c D cl A nL Q pc lv (.int x :: st) ws u :=
  fun H locs ls hP hD hS hv => lv_if_le h.1 h.2.1 hdg ht (fun z => kt z H locs ls hP hD hS hv) (fun z => kf z H locs ls hP hD hS hv)
theorem kr_icmp_le (h : kc_C p s m args c cc nL own D cl tys A) {x y : Int32} {off : Int} (tgt : Nat) (hdg : decode cc pc = .ok (.if_icmp .le off, 3)) (ht : (pc : Int) + off = (tgt : Int)) (kt : x ≤ y → kc_W p l e R s m args below meth c D cl A nL Q tgt lv st ws u) (kf : ¬ x ≤ y → kc_W p l e R s m args below meth c D cl A nL Q (pc + 3) lv st ws u) : kc_W p l e R s m args below meth c D cl A nL Q pc lv (.int y :: .int x :: st) ws u :=
  fun H locs ls hP hD hS hv => lv_icmp_le h.1 h.2.1 hdg ht (fun z => kt z H locs ls hP hD hS hv) (fun z => kf z H locs ls hP hD hS hv)
theorem kr_goto (h : kc_C p s m args c cc nL own D cl tys A) {off : Int} (tgt : Nat) (hdg : decode cc pc = .ok (.goto off, 3)) (ht : (pc : Int) + off = (tgt : Int)) (kk : kc_W p l e R s m args below meth c D cl A nL Q tgt lv st ws u) : kc_W p l e R s m args below meth c D cl A nL Q pc lv st ws u :=
  fun H locs ls hP hD hS hv => lv_goto h.1 h.2.1 hdg ht (kk H locs ls hP hD hS hv)
theorem kr_tabIn (h : kc_C p s m args c cc nL own D cl tys A) {dflt lo hi : Int} {offs : Array Int} {len : Nat} {x : Int32} {off : Int} (tgt : Nat) (hdg : decode cc pc = .ok (.tableswitch dflt lo hi offs, len)) (h1 : ¬ x.toInt < lo) (h2 : ¬ hi < x.toInt) (ho : offs[(x.toInt - lo).toNat]? = some off) (ht : (pc : Int) + off = (tgt : Int)) (kk : kc_W p l e R s m args below meth c D cl A nL Q tgt lv st ws u) : kc_W p l e R s m args below meth c D cl A nL Q pc lv (.int x :: st) ws u :=
  fun H locs ls hP hD hS hv => lv_tableIn h.1 h.2.1 hdg h1 h2 ho ht (kk H locs ls hP hD hS hv)
theorem kr_tabOut (h : kc_C p s m args c cc nL own D cl tys A) {dflt lo hi : Int} {offs : Array Int} {len : Nat} {x : Int32} (tgt : Nat) (hdg : decode cc pc = .ok (.tableswitch dflt lo hi offs, len)) (h1 : x.toInt < lo ∨ hi < x.toInt) (ht : (pc : Int) + dflt = (tgt : Int)) (kk : kc_W p l e R s m args below meth c D cl A nL Q tgt lv st ws u) : kc_W p l e R s m args below meth c D cl A nL Q pc lv (.int x :: st) ws u :=
  fun H locs ls hP hD hS hv => lv_tableOut h.1 h.2.1 hdg h1 ht (kk H locs ls hP hD hS hv)
theorem kr_look (h : kc_C p s m args c cc nL own D cl tys A) {dflt : Int} {ps : Array (Int × Int)} {len : Nat} {x : Int32} {off : Int} (tgt : Nat) (hdg : decode cc pc = .ok (.lookupswitch dflt ps, len)) (hp : (ps.toList.zip (ps.toList.drop 1)).all (fun (a, next) => a.1 < next.1) = true) (ho : Op.lookupswitch.offset ps.toList dflt x.toInt = off) (ht : (pc : Int) + off = (tgt : Int)) (kk : kc_W p l e R s m args below meth c D cl A nL Q tgt lv st ws u) : kc_W p l e R s m args below meth c D cl A nL Q pc lv (.int x :: st) ws u :=
  fun H locs ls hP hD hS hv => lv_lookup h.1 h.2.1 hdg hp ho ht (kk H locs ls hP hD hS hv)
theorem kr_iald (h : kc_C p s m args c cc nL own D cl tys A) (q0 t0 : Nat) {a : Nat} {cA : ClassId} {n : Nat} {f : Nat → Int32} {i : Int32} (hdg : decode cc pc = .ok (.iaload, 1)) (ha : ws[q0]? = some (a, .inl (cA, n, .inl f))) (ht : tys[t0]? = some (cA, .int)) (hin : vp_in i n) (kk : ∀ z : Int32, z = f i.toNatClampNeg → kc_W p l e R s m args below meth c D cl A nL Q (pc + 1) lv (.int z :: st) ws u) : kc_W p l e R s m args below meth c D cl A nL Q pc lv (.int i :: .ref a :: st) ws u :=
  fun H locs ls hP hD hS hv => va_iald h.1 h.2.1 h.2.2.2.2.2.1 hP q0 t0 ha ht hin hdg (kk _ rfl H locs ls hP hD hS hv)
theorem kr_zald (h : kc_C p s m args c cc nL own D cl tys A) (q0 t0 : Nat) {a : Nat} {cA : ClassId} {n : Nat} {f : Nat → Int32} {i : Int32} (hdg : decode cc pc = .ok (.baload, 1)) (ha : ws[q0]? = some (a, .inl (cA, n, .inl f))) (ht : tys[t0]? = some (cA, .boolean)) (hin : vp_in i n) (kk : ∀ z : Int32, z = f i.toNatClampNeg → kc_W p l e R s m args below meth c D cl A nL Q (pc + 1) lv (.int z :: st) ws u) : kc_W p l e R s m args below meth c D cl A nL Q pc lv (.int i :: .ref a :: st) ws u :=
  fun H locs ls hP hD hS hv => va_zald h.1 h.2.1 h.2.2.2.2.2.1 hP q0 t0 ha ht hin hdg (kk _ rfl H locs ls hP hD hS hv)
theorem kr_lald (h : kc_C p s m args c cc nL own D cl tys A) (q0 t0 : Nat) {a : Nat} {cA : ClassId} {n : Nat} {f : Nat → Int64} {i : Int32} (hdg : decode cc pc = .ok (.laload, 1)) (ha : ws[q0]? = some (a, .inl (cA, n, .inr (.inl f)))) (ht : tys[t0]? = some (cA, .long)) (hin : vp_in i n) (kk : ∀ z : Int64, z = f i.toNatClampNeg → kc_W p l e R s m args below meth c D cl A nL Q (pc + 1) lv (.long z :: st) ws u) : kc_W p l e R s m args below meth c D cl A nL Q pc lv (.int i :: .ref a :: st) ws u :=
  fun H locs ls hP hD hS hv => va_lald h.1 h.2.1 h.2.2.2.2.2.1 hP q0 t0 ha ht hin hdg (kk _ rfl H locs ls hP hD hS hv)
theorem kr_iast (h : kc_C p s m args c cc nL own D cl tys A) (q0 t0 : Nat) {a : Nat} {cA : ClassId} {n : Nat} {f : Nat → Int32} {i x : Int32} (hdg : decode cc pc = .ok (.iastore, 1)) (ha : ws[q0]? = some (a, .inl (cA, n, .inl f))) (ht : tys[t0]? = some (cA, .int)) (hin : vp_in i n) (hw : ws.set q0 (a, .inl (cA, n, .inl (upd f i.toNatClampNeg x))) = ws') (kk : kc_W p l e R s m args below meth c D cl A nL Q (pc + 1) lv st ws' u) : kc_W p l e R s m args below meth c D cl A nL Q pc lv (.int x :: .int i :: .ref a :: st) ws u :=
  fun H locs ls hP hD hS hv => va_iast h.1 h.2.1 h.2.2.2.2.2.1 hP hD hS q0 t0 ha ht hin hdg (fun H1 locs1 hP1 hD1 hS1 => kk H1 locs1 ls (hw ▸ hP1) (hw ▸ hD1) hS1 hv)
theorem kr_zast (h : kc_C p s m args c cc nL own D cl tys A) (q0 t0 : Nat) {a : Nat} {cA : ClassId} {n : Nat} {f : Nat → Int32} {i x : Int32} (hdg : decode cc pc = .ok (.bastore, 1)) (ha : ws[q0]? = some (a, .inl (cA, n, .inl f))) (ht : tys[t0]? = some (cA, .boolean)) (hin : vp_in i n) (hw : ws.set q0 (a, .inl (cA, n, .inl (upd f i.toNatClampNeg (vp_nar .boolean x)))) = ws') (kk : kc_W p l e R s m args below meth c D cl A nL Q (pc + 1) lv st ws' u) : kc_W p l e R s m args below meth c D cl A nL Q pc lv (.int x :: .int i :: .ref a :: st) ws u :=
  fun H locs ls hP hD hS hv => va_zast h.1 h.2.1 h.2.2.2.2.2.1 hP hD hS q0 t0 ha ht hin hdg (fun H1 locs1 hP1 hD1 hS1 => kk H1 locs1 ls (hw ▸ hP1) (hw ▸ hD1) hS1 hv)
theorem kr_last (h : kc_C p s m args c cc nL own D cl tys A) (q0 t0 : Nat) {a : Nat} {cA : ClassId} {n : Nat} {f : Nat → Int64} {i : Int32} {x : Int64} (hdg : decode cc pc = .ok (.lastore, 1)) (ha : ws[q0]? = some (a, .inl (cA, n, .inr (.inl f)))) (ht : tys[t0]? = some (cA, .long)) (hin : vp_in i n) (hw : ws.set q0 (a, .inl (cA, n, .inr (.inl (vp_updL f i.toNatClampNeg x)))) = ws') (kk : kc_W p l e R s m args below meth c D cl A nL Q (pc + 1) lv st ws' u) : kc_W p l e R s m args below meth c D cl A nL Q pc lv (.long x :: .int i :: .ref a :: st) ws u :=
  fun H locs ls hP hD hS hv => va_last h.1 h.2.1 h.2.2.2.2.2.1 hP hD hS q0 t0 ha ht hin hdg (fun H1 locs1 hP1 hD1 hS1 => kk H1 locs1 ls (hw ▸ hP1) (hw ▸ hD1) hS1 hv)
theorem kr_alen (h : kc_C p s m args c cc nL own D cl tys A) (q0 t0 : Nat) {a : Nat} {cA : ClassId} {x : vp_A} {ty : FieldType} {v : Int32} (hdg : decode cc pc = .ok (.arraylength, 1)) (ha : ws[q0]? = some (a, .inl (cA, x))) (ht : tys[t0]? = some (cA, ty)) (hx : Int32.ofNat x.1 = v) (kk : kc_W p l e R s m args below meth c D cl A nL Q (pc + 1) lv (.int v :: st) ws u) : kc_W p l e R s m args below meth c D cl A nL Q pc lv (.ref a :: st) ws u :=
  fun H locs ls hP hD hS hv => va_alen h.1 h.2.1 h.2.2.2.2.2.1 hP q0 t0 ha ht hx hdg (kk H locs ls hP hD hS hv)
theorem kr_sld (h : kc_C p s m args c cc nL own D cl tys A) {b L : Nat} {xs : Nat → Int32} {i : Int32} (hX : va_X b L xs s s.heap) (hbl : b < s.heap.size) (hbA : ¬ A b) (hdg : decode cc pc = .ok (.iaload, 1)) (hin : vp_in i L) (kk : ∀ z : Int32, z = xs i.toNatClampNeg → kc_W p l e R s m args below meth c D cl A nL Q (pc + 1) lv (.int z :: st) ws u) : kc_W p l e R s m args below meth c D cl A nL Q pc lv (.int i :: .ref b :: st) ws u :=
  fun H locs ls hP hD hS hv => va_sld h.1 h.2.1 hX hbl hbA hS hin hdg (kk _ rfl H locs ls hP hD hS hv)
theorem kr_slen (h : kc_C p s m args c cc nL own D cl tys A) {b L : Nat} {xs : Nat → Int32} (hX : va_X b L xs s s.heap) (hbl : b < s.heap.size) (hbA : ¬ A b) (hdg : decode cc pc = .ok (.arraylength, 1)) (kk : kc_W p l e R s m args below meth c D cl A nL Q (pc + 1) lv (.int (Int32.ofNat L) :: st) ws u) : kc_W p l e R s m args below meth c D cl A nL Q pc lv (.ref b :: st) ws u :=
  fun H locs ls hP hD hS hv => va_slen h.1 h.2.1 hX hbl hbA hS hdg (kk H locs ls hP hD hS hv)
/-- what is known of a class's table of fields -/
def kc_F (C : String) (T : u_T) (N : Nat) (ty : Nat → FieldType) : Prop := (∀ w ∈ u_ws C T N, w ∈ tw) ∧ (∀ k, k < N → parseFieldDescriptor (T k).2.2.1 = some (ty k)) ∧ (∀ a, a < N → ∀ b, b < N → a ≠ b → (T a).2.1 ≠ (T b).2.1)
theorem kr_get (h : kc_C p s m args c cc nL own D cl tys A) {C : String} {T : u_T} {N ci index : Nat} {ty : Nat → FieldType} (hF : kc_F C T N ty) (q0 k : Nat) {a : Nat} {fs : List Value} {v : Value} (hdg : decode cc pc = .ok (.getfield index, 3)) (hlink : Cond.fieldLink own index C (T k).2.1 (T k).2.2.1 ∈ tw) (he : ws[q0]? = some (a, .inr (ci, fs))) (hc : cl[ci]? = some (C, T, N)) (hk : k < N) (hT : (T k).1 = C) (hf : fs[k]? = some v) (kk : kc_W p l e R s m args below meth c D cl A nL Q (pc + 3) lv (v :: st) ws u) : kc_W p l e R s m args below meth c D cl A nL Q pc lv (.ref a :: st) ws u :=
  fun H locs ls hP hD hS hv => va_get (D := D) h.1 h.2.1 h.2.2.2.2.1 hF.1 h.2.2.2.1 h.2.2.2.2.2.1 hP q0 he hc k hk (h.2.2.2.2.1 _ hlink) (fun x hx => by rw [hT] at hx; exact hx) hf hdg (kk H locs ls hP hD hS hv)
theorem kr_put (h : kc_C p s m args c cc nL own D cl tys A) {C : String} {T : u_T} {N ci index : Nat} {ty : Nat → FieldType} (hF : kc_F C T N ty) (q0 k : Nat) {a : Nat} {fs : List Value} {v : Value} (hdg : decode cc pc = .ok (.putfield index, 3)) (hlink : Cond.fieldLink own index C (T k).2.1 (T k).2.2.1 ∈ tw) (he : ws[q0]? = some (a, .inr (ci, fs))) (hc : cl[ci]? = some (C, T, N)) (hk : k < N) (hT : (T k).1 = C) (hfin : (T k).2.2.2 = false) (hn : narrow (ty k) v = v) (hfit : fits (ty k) v = true) (hlen : k < fs.length) (hw : ws.set q0 (a, .inr (ci, fs.set k v)) = ws') (kk : kc_W p l e R s m args below meth c D cl A nL Q (pc + 3) lv st ws' u) : kc_W p l e R s m args below meth c D cl A nL Q pc lv (v :: .ref a :: st) ws u :=
  fun H locs ls hP hD hS hv => va_put (D := D) h.1 h.2.1 h.2.2.2.2.1 hF.1 ty hF.2.1 hF.2.2 h.2.2.2.1 h.2.2.2.2.2.1 hP hD hS q0 he hc k hk (h.2.2.2.2.1 _ hlink) (fun x hx => by rw [hT] at hx; exact hx) hfin (hF.2.1 k hk) hn hfit hlen hdg (fun H1 locs1 hP1 hD1 hS1 => kk H1 locs1 ls (hw ▸ hP1) (hw ▸ hD1) hS1 hv)
theorem kr_top (h : kc_C p s m args c cc nL own D cl tys A) {x : Int32} (kk : ∀ z : Int32, z = x → kc_W p l e R s m args below meth c D cl A nL Q pc lv (.int z :: st) ws u) : kc_W p l e R s m args below meth c D cl A nL Q pc lv (.int x :: st) ws u := kk _ rfl
theorem kr_lv (ks : List Nat) (hl : lv_pick lv ks = lv') (kk : kc_W p l e R s m args below meth c D cl A nL Q pc lv' st ws u) : kc_W p l e R s m args below meth c D cl A nL Q pc lv st ws u :=
  fun H locs ls hP hD hS hv => kk H locs ls hP hD hS (lv_sub hv ks hl)
theorem kr_wide {u2 : Nat × Nat} (h1 : u.1 ≤ u2.1) (h2 : u.2 ≤ u2.2) (kk : kc_W p l e R s m args below meth c D cl A nL Q pc lv st ws u2) : kc_W p l e R s m args below meth c D cl A nL Q pc lv st ws u :=
  fun H locs ls hP hD hS hv => W.widen h1 h2 (kk H locs ls hP hD hS hv)
def kc_tab (dflt lo hi : Int) (offs : Array Int) (z : Int) : Option Int := if z < lo ∨ hi < z then some dflt else offs[(z - lo).toNat]?
theorem kr_tab (h : kc_C p s m args c cc nL own D cl tys A) {dflt lo hi : Int} {offs : Array Int} {len : Nat} {x : Int32} (tgt : Nat) (hdg : decode cc pc = .ok (.tableswitch dflt lo hi offs, len)) (ho : kc_tab dflt lo hi offs x.toInt = some ((tgt : Int) - (pc : Int))) (kk : kc_W p l e R s m args below meth c D cl A nL Q tgt lv st ws u) : kc_W p l e R s m args below meth c D cl A nL Q pc lv (.int x :: st) ws u := by
  unfold kc_tab at ho
  split at ho
  · rename_i hz
    have hd := Option.some.inj ho
    exact kr_tabOut h tgt hdg hz (by omega) kk
  · rename_i hz
    exact kr_tabIn h tgt hdg (fun z => hz (Or.inl z)) (fun z => hz (Or.inr z)) ho (by omega) kk
theorem kc_sw (v : Int32) (lo hi : Nat) : (v.toInt < (lo : Int) ∨ (hi : Int) ≤ v.toInt) ∨ ∃ j : Nat, lo ≤ j ∧ j < hi ∧ v = nI j := by
  by_cases h1 : v.toInt < (lo : Int)
  · exact Or.inl (Or.inl h1)
  · by_cases h2 : (hi : Int) ≤ v.toInt
    · exact Or.inl (Or.inr h2)
    · refine Or.inr ⟨v.toInt.toNat, by omega, by omega, ?_⟩
      have h3 : v.toInt < 2 ^ 31 := v.toInt_lt
      apply Int32.toInt_inj.mp
      rw [nI_toInt (by omega)]
      omega
end KC
end
section
/-! contracts over worlds that are lists, and calls by them -/
section KD
/-- a contract's start: the arguments, and the world w -/
def kc_Pre (av : List Value) (D : va_G) (cl : List vw_C) (tys : List (ClassId × FieldType)) (w : va_W) (sz : Nat) : Array Value → State → Prop := va_Pc av (fun U => U.heap.size = sz ∧ va_P D cl w U.heap ∧ va_K D cl tys U ∧ va_D (fun _ => True) w)
/-- its end: the answer r, the world w2 -/
def kc_Post (r : Option Value) (D : va_G) (cl : List vw_C) (w w2 : va_W) (sz : Nat) : Array Value → State → Outcome → State → Prop := fun _ st o t => o = .returned r ∧ va_P D cl w2 t.heap ∧ va_D (va_A w sz) w2 ∧ va_F (va_A w sz) st t
/-- a method's contract: from w and the arguments av to the answer r and w2; mc cells of ms slots are made -/
def kc_M (l : Launch) (y : MethodName) (bytes : ByteArray) (maxL : Nat) (ret : Option FieldType) (fr lo mc ms : Nat) (av : List Value) (D : va_G) (cl : List vw_C) (tys : List (ClassId × FieldType)) (w : va_W) (r : Option Value) (w2 : va_W) : Prop :=
  ∀ sz : Nat, Met l y (Cond.code y bytes maxL ret :: tw) { frames := fr, cells := mc, slots := ms, locals := lo } (kc_Pre av D cl tys w sz) (kc_Post r D cl w w2 sz) mc ms (va_A w sz)
theorem kc_blind {av : List Value} {D : va_G} {cl : List vw_C} {tys : List (ClassId × FieldType)} {w : va_W} {sz : Nat} : FrameBlind (kc_Pre av D cl tys w sz) := fun a U g mk q => by
  obtain ⟨q0, q1, qP, qK, qD⟩ := q
  exact ⟨q0, q1, qP, va_K.moved (u := U) (U := U.calling g mk a) (Vm.Alike.refl U.vm) qK, qD⟩
theorem kc_start {l : Launch} {y : MethodName} {bytes : ByteArray} {maxL : Nat} {ret : Option FieldType} {fr lo mc ms : Nat} {av : List Value} {D : va_G} {cl : List vw_C} {tys : List (ClassId × FieldType)} {w w2 : va_W} {r : Option Value} (own : String) (hy : plainName y.cls = true) (hcls : y.cls = own) (hlen : (lg_sl av).length ≤ maxL)
    (body : ∀ (p : Program) (e : Env) (s : State) (m : MethodId) (below : List Frame) (meth : Method) (c : Code), kc_C p s m av.toArray c bytes maxL own D cl tys (va_A w s.heap.size) → meth.sig.returnType = ret → meth.locks = false → meth.name = y.name →
      kc_W p l e { frames := fr, cells := mc, slots := ms, locals := lo } s m av.toArray below meth c D cl (va_A w s.heap.size) maxL (MQ below (kc_Post r D cl w w2 s.heap.size) av.toArray s mc ms (va_A w s.heap.size)) 0 (lv_args 0 av) [] w (0, 0)) :
    kc_M l y bytes maxL ret fr lo mc ms av D cl tys w r w2 := by
  intro sz
  refine Met.ofW (cc := bytes) (maxL := maxL) (ret := ret) hy rfl ?_
  intro p e s m args below meth c s₁ B hml hv
  obtain ⟨rfl, hsz, hP, hK, hD0⟩ := hv
  subst hsz
  have hts := atoms_spec (ws := Cond.code y bytes maxL ret :: tw) B.pre
  have hown : s.vm.findClass own = some m.cls := by rw [← hcls]; exact findClass_of_methodNamed B.named
  have hnm : meth.name = y.name := (name_of_methodNamed B.named B.method).1
  have hl := lv_entry av (n := maxL) hlen
  rw [lg_entry_eq]
  exact body p e s m below meth c ⟨B.exec, B.bytes, hml, hown, fun w hw => hts w (List.mem_cons_of_mem _ hw), hK, fun q hq => Or.inr hq⟩ B.returns B.notSynchronized hnm s.heap [] _ hP hD0.self va_S.rf hl
end KD
section KE
variable {p : Program} {l : Launch} {e : Env} {R : Room} {s : State} {m : MethodId} {args : Array Value} {below : List Frame} {meth : Method} {c : Code} {Q : State → Prop}
variable {cc : ByteArray} {nL : Nat} {own : String} {D : va_G} {cl : List vw_C} {tys : List (ClassId × FieldType)} {A : Nat → Prop}
variable {pc : Nat} {lv lv' : List (Nat × Value)} {st st0 : List Value} {ws ws' w w2 : va_W} {u : Nat × Nat} {mc ms : Nat} {r : Option Value} {a : Array Value}
theorem kr_iret {v x : Int32} (h : kc_C p s m args c cc nL own D cl tys (va_A w s.heap.size)) (hr : meth.sig.returnType = some .int) (hlk : meth.locks = false) (hdg : decode cc pc = .ok (.ireturn, 1)) (hq : v = x) (hw : ws = w2) :
    kc_W p l e R s m args below meth c D cl (va_A w s.heap.size) nL (MQ below (kc_Post (some (.int x)) D cl w w2 s.heap.size) args s mc ms (va_A w s.heap.size)) pc lv [.int v] ws (mc, ms) := by
  subst hq; subst hw
  exact fun H locs ls hP hD hS hv => W.iret h.1 h.2.1 hr (fun t ht hW => ⟨rfl, by rw [ht]; exact hP, hD, hS.F ht⟩) hS.2.2 hdg hlk
theorem kr_zret {v x : Int32} (h : kc_C p s m args c cc nL own D cl tys (va_A w s.heap.size)) (hr : meth.sig.returnType = some .boolean) (hlk : meth.locks = false) (hdg : decode cc pc = .ok (.ireturn, 1)) (hn : narrow .boolean (.int v) = .int v) (hq : v = x) (hw : ws = w2) :
    kc_W p l e R s m args below meth c D cl (va_A w s.heap.size) nL (MQ below (kc_Post (some (.int x)) D cl w w2 s.heap.size) args s mc ms (va_A w s.heap.size)) pc lv [.int v] ws (mc, ms) := by
  subst hq; subst hw
  exact fun H locs ls hP hD hS hv => W.zret h.1 h.2.1 hr hn (fun t ht hW => ⟨rfl, by rw [ht]; exact hP, hD, hS.F ht⟩) hS.2.2 hdg hlk
theorem kr_vret (h : kc_C p s m args c cc nL own D cl tys (va_A w s.heap.size)) (hr : meth.sig.returnType = none) (hlk : meth.locks = false) (hdg : decode cc pc = .ok (.return_, 1)) (hw : ws = w2) :
    kc_W p l e R s m args below meth c D cl (va_A w s.heap.size) nL (MQ below (kc_Post none D cl w w2 s.heap.size) args s mc ms (va_A w s.heap.size)) pc lv [] ws (mc, ms) := by
  subst hw
  exact fun H locs ls hP hD hS hv => W.vret h.1 h.2.1 hr (fun t ht hW => ⟨rfl, by rw [ht]; exact hP, hD, hS.F ht⟩) hS.2.2 hdg hlk
/-- a call's run, over every heap that holds ws -/
def kc_R (p : Program) (l : Launch) (e : Env) (R : Room) (s : State) (m : MethodId) (args : Array Value) (below : List Frame) (meth : Method) (c : Code) (D : va_G) (cl : List vw_C) (A : Nat → Prop) (nL pc : Nat) (lv : List (Nat × Value)) (st0 st : List Value) (ws : va_W) (u : Nat × Nat) (mc ms : Nat) (w : va_W) (r : Option Value) (w2 : va_W) : Prop :=
  ∀ (H : Heap) (locs : List Loc) (ls : Array Slot), va_P D cl ws H → va_D A ws → lv_has ls nL lv → ∃ a : Array Value, va_Run p l e R s m args below meth c H locs u.1 u.2 mc ms (F0 m pc ls st0) st (kc_Post r D cl w w2 H.size a) (va_A w H.size)
theorem kc_after {H H1 : Heap} {locs L : List Loc} (hS : va_S A s.heap H locs) (hF : ∀ q, va_A w H.size q → A q) (hz : H.size ≤ H1.size) (hk : ∀ q : Nat, q < H.size → ¬ va_A w H.size q → H1[q]? = H[q]?) (hL : ∀ q ∈ L, va_A w H.size q.base) : va_S A s.heap H1 (locs ++ L) :=
  ⟨Nat.le_trans hS.1 hz, fun q h1 h2 => by rw [hk q (Nat.lt_of_lt_of_le h1 hS.1) (fun z => h2 (hF q z))]; exact hS.2.1 q h1 h2, fun q hq => by
    rcases List.mem_append.mp hq with h | h
    · exact hS.2.2 q h
    · exact hF _ (hL q h)⟩
/-- a call of a method that sees no cell -/
theorem kr_run0 (h : kc_C p s m args c cc nL own D cl tys A) (hr : kc_R p l e R s m args below meth c D cl A nL pc lv st0 st ws u mc ms [] r []) (kk : kc_W p l e R s m args below meth c D cl A nL Q (pc + 3) lv (r.toList ++ st) ws (u.1 + mc, u.2 + ms)) : kc_W p l e R s m args below meth c D cl A nL Q pc lv st0 ws u := by
  intro H locs ls hP hD hS hv T hT X
  obtain ⟨a, hrun⟩ := hr H locs ls hP hD hv
  obtain ⟨v, st₀, t, T', L, h0, X', hL, e1, e2, ⟨hv', -, -, hz, hk⟩, stp⟩ := hrun T hT X
  cases hv'
  rw [h0] at hz hk
  have hF : ∀ q, va_A ([] : va_W) H.size q → A q := fun q hq => by
    rcases hq with ⟨k, e, hk⟩ | hq
    · cases hk
    · exact h.2.2.2.2.2.2 q (Nat.le_trans hS.1 hq)
  have hP1 : va_P D cl ws t.heap := hP.kept (fun k q hq => hk q.1 ((hP k q hq).lt) (fun z => by
    rcases z with ⟨k, e, hk⟩ | hq'
    · cases hk
    · exact absurd ((hP k q hq).lt) (Nat.not_lt.mpr hq')))
  obtain ⟨t2, a1, b1⟩ := kk t.heap (locs ++ L) ls hP1 hD (kc_after hS hF hz hk hL) hv T' e1 X'
  exact ⟨t2, stp t2 a1, b1⟩
/-- a call of a method that sees the whole world -/
theorem kr_run (h : kc_C p s m args c cc nL own D cl tys A) (hr : kc_R p l e R s m args below meth c D cl A nL pc lv st0 st ws u mc ms ws r w2) (kk : kc_W p l e R s m args below meth c D cl A nL Q (pc + 3) lv (r.toList ++ st) w2 (u.1 + mc, u.2 + ms)) : kc_W p l e R s m args below meth c D cl A nL Q pc lv st0 ws u := by
  intro H locs ls hP hD hS hv T hT X
  obtain ⟨a, hrun⟩ := hr H locs ls hP hD hv
  obtain ⟨v, st₀, t, T', L, h0, X', hL, e1, e2, ⟨hv', hP1, hD1, hz, hk⟩, stp⟩ := hrun T hT X
  cases hv'
  rw [h0] at hz hk
  have hF : ∀ q, va_A ws H.size q → A q := fun q hq => by
    rcases hq with ⟨k, e, hk⟩ | hq
    · exact hD.2 k _ hk
    · exact h.2.2.2.2.2.2 q (Nat.le_trans hS.1 hq)
  obtain ⟨t2, a1, b1⟩ := kk t.heap (locs ++ L) ls hP1 (hD1.weaken (fun k q _ h => hF q.1 h)) (kc_after hS hF hz hk hL) hv T' e1 X'
  exact ⟨t2, stp t2 a1, b1⟩
theorem kc_fm {α β : Type} {f : α → Option β} {is : List α} {w : List β} (h : is.map f = w.map some) : is.filterMap f = w := by
  induction is generalizing w with
  | nil => cases w with
    | nil => rfl
    | cons b w => simp at h
  | cons i is ih => cases w with
    | nil => simp at h
    | cons b w =>
      simp only [List.map_cons, List.cons.injEq] at h
      rw [List.filterMap_cons, h.1, ih h.2]
/-- a call of a method that sees the cells at the places isC; the rest at isR; what comes is laid anew by the places pm -/
theorem kr_runP (h : kc_C p s m args c cc nL own D cl tys A) (hr : kc_R p l e R s m args below meth c D cl A nL pc lv st0 st ws u mc ms w r w2) (isC isR pm : List Nat) {wr : va_W} (hC : isC.map (fun i => ws[i]?) = w.map some) (hRr : isR.map (fun i => ws[i]?) = wr.map some) (hn : va_nd isR = true) (hdis : ∀ i ∈ isR, i ∉ isC)
    (hpm : pm.map (fun i => (wr ++ w2)[i]?) = ws'.map some) (hpn : va_nd pm = true) (kk : kc_W p l e R s m args below meth c D cl A nL Q (pc + 3) lv (r.toList ++ st) ws' (u.1 + mc, u.2 + ms)) : kc_W p l e R s m args below meth c D cl A nL Q pc lv st0 ws u := by
  intro H locs ls hP hD hS hv T hT X
  obtain ⟨a, hrun⟩ := hr H locs ls hP hD hv
  obtain ⟨v, st₀, t, T', L, h0, X', hL, e1, e2, ⟨hv', hP1, hD1, hz, hk⟩, stp⟩ := hrun T hT X
  cases hv'
  rw [h0] at hz hk
  have hF := va_free (wc := w) hD hS h.2.2.2.2.2.2 isC hC
  obtain ⟨hP2, hD2⟩ := va_join (wr := wr) (w1 := w2) hP hD isC isR hC hRr hn hdis hk hF hP1 hD1
  obtain ⟨t2, a1, b1⟩ := kk t.heap (locs ++ L) ls (hP2.sub pm (kc_fm hpm)) (hD2.sub pm hpn hpm) (kc_after hS hF hz hk hL) hv T' e1 X'
  exact ⟨t2, stp t2 a1, b1⟩
/-- the words of a static method, of an instance method -/
def kc_ys (y : MethodName) (bytes : ByteArray) (maxL : Nat) (ret : Option FieldType) (n : Nat) : Prop := Cond.static y ∈ tw ∧ Cond.initialized y.cls ∈ tw ∧ Cond.code y bytes maxL ret ∈ tw ∧ (y.cls ≠ "java/lang/invoke/MethodHandle" ∧ y.cls ≠ "java/lang/invoke/VarHandle" ∧ (parseMethodDescriptor y.desc).map (fun d => d.parameters.length) = some n)
def kc_yv (y : MethodName) (bytes : ByteArray) (maxL : Nat) (ret : Option FieldType) (C : String) (n : Nat) : Prop := Cond.instanceMethod y ∈ tw ∧ Cond.selects C y y ∈ tw ∧ Cond.initialized C ∈ tw ∧ Cond.code y bytes maxL ret ∈ tw ∧ (y.cls = C ∧ y.cls ≠ "java/lang/invoke/MethodHandle" ∧ y.cls ≠ "java/lang/invoke/VarHandle" ∧ (parseMethodDescriptor y.desc).map (fun d => d.parameters.length) = some n)
theorem kc_rS (h : kc_C p s m args c cc nL own D cl tys A) {y : MethodName} {bytes : ByteArray} {maxL : Nat} {ret : Option FieldType} {fr lo idx n : Nat} {av : List Value} (hM : kc_M l y bytes maxL ret fr lo mc ms av D cl tys w r w2) (hml : Cond.methodLink own idx y ∈ tw) (hy : kc_ys y bytes maxL ret n) (hdg : decode cc pc = .ok (.invokestatic idx, 3)) (hn : av.length = n) (hst : st0 = av.reverse ++ st) (hR : fr + 1 ≤ R.frames ∧ 8 + (maxL + 11) + lo ≤ R.locals) (hf : u.1 + mc ≤ R.cells ∧ u.2 + ms ≤ R.slots) (hcat : (st.map fun v => v.category).sum ≤ 8) (isC : List Nat) (hC : isC.map (fun i => ws[i]?) = w.map some) (hCn : va_nd isC = true) :
    kc_R p l e R s m args below meth c D cl A nL pc lv st0 st ws u mc ms w r w2 := by
  intro H locs ls hP hD hv
  refine ⟨av.toArray, va_runS (As := av) (rest := st) ⟨h.1, h.2.1, h.2.2.1, h.2.2.2.1, h.2.2.2.2.1⟩ (hM H.size) (va_cwS n h.2.2.2.2.1 (fun x hx => tw_good x ?_) rfl rfl rfl hy.2.2.2 hR) ⟨kc_blind, fun U hU hW => ⟨rfl, by rw [hU], by rw [hU]; exact hP.sub isC (kc_fm hC), va_K.moved hW.alike h.2.2.2.2.2.1, (hD.sub isC hCn hC).weaken (fun _ _ _ _ => trivial)⟩⟩ rfl hn hv.1 hst (lv_room hcat) hdg hf⟩
  simp only [va_wsS, List.mem_append, List.mem_cons, List.not_mem_nil, or_false] at hx
  rcases hx with (rfl | rfl | rfl) | rfl | hx
  · exact hml
  · exact hy.1
  · exact hy.2.1
  · exact hy.2.2.1
  · exact hx
theorem kc_rV (h : kc_C p s m args c cc nL own D cl tys A) {y : MethodName} {bytes : ByteArray} {maxL : Nat} {ret : Option FieldType} {fr lo idx n : Nat} {C : String} {b : Nat} {av : List Value} (hM : kc_M l y bytes maxL ret fr lo mc ms (.ref b :: av) D cl tys w r w2) (hml : Cond.methodLink own idx y ∈ tw) (hy : kc_yv y bytes maxL ret C n) (hdg : decode cc pc = .ok (.invokevirtual idx, 3)) (hn : av.length = n) (hst : st0 = av.reverse ++ .ref b :: st) (hR : fr + 1 ≤ R.frames ∧ 8 + (maxL + 11) + lo ≤ R.locals) (hf : u.1 + mc ≤ R.cells ∧ u.2 + ms ≤ R.slots) (hcat : (st.map fun v => v.category).sum ≤ 8) (isC : List Nat) (hC : isC.map (fun i => ws[i]?) = w.map some) (hCn : va_nd isC = true) (q0 : Nat) {ci : Nat} {q : vw_C} {fs : List Value} (hc : cl[ci]? = some q) (hcC : q.1 = C) (he : ws[q0]? = some (b, .inr (ci, fs))) :
    kc_R p l e R s m args below meth c D cl A nL pc lv st0 st ws u mc ms w r w2 := by
  intro H locs ls hP hD hv
  subst hcC
  refine ⟨(.ref b :: av).toArray, va_runV (As := av) (rest := st) ⟨h.1, h.2.1, h.2.2.1, h.2.2.2.1, h.2.2.2.2.1⟩ (hM H.size) (cwV n h.2.2.2.2.1 (fun x hx => tw_good x ?_) rfl rfl rfl hy.2.2.2.2 hR) ⟨kc_blind, va_recv h.2.2.2.2.2.1 hP hc he, fun U hU hW => ⟨rfl, by rw [hU], by rw [hU]; exact hP.sub isC (kc_fm hC), va_K.moved hW.alike h.2.2.2.2.2.1, (hD.sub isC hCn hC).weaken (fun _ _ _ _ => trivial)⟩⟩ rfl hn hv.1 hst (lv_room hcat) hdg hf⟩
  simp only [wsV, List.mem_append, List.mem_cons, List.not_mem_nil, or_false] at hx
  rcases hx with (rfl | rfl | rfl | rfl) | rfl | hx
  · exact hml
  · exact hy.1
  · exact hy.2.1
  · exact hy.2.2.1
  · exact hy.2.2.2.1
  · exact hx
/-- the same rows, the answer an int with a name, or none -/
theorem kr_i0 (h : kc_C p s m args c cc nL own D cl tys A) {z : Int32} (hr : kc_R p l e R s m args below meth c D cl A nL pc lv st0 st ws u 0 0 [] (some (.int z)) []) (kk : ∀ v : Int32, v = z → kc_W p l e R s m args below meth c D cl A nL Q (pc + 3) lv (.int v :: st) ws u) : kc_W p l e R s m args below meth c D cl A nL Q pc lv st0 ws u := kr_run0 h hr (kk _ rfl)
theorem kr_iA (h : kc_C p s m args c cc nL own D cl tys A) {z : Int32} (hr : kc_R p l e R s m args below meth c D cl A nL pc lv st0 st ws u 0 0 ws (some (.int z)) w2) (kk : ∀ v : Int32, v = z → kc_W p l e R s m args below meth c D cl A nL Q (pc + 3) lv (.int v :: st) w2 u) : kc_W p l e R s m args below meth c D cl A nL Q pc lv st0 ws u := kr_run h hr (kk _ rfl)
theorem kr_vA (h : kc_C p s m args c cc nL own D cl tys A) (hr : kc_R p l e R s m args below meth c D cl A nL pc lv st0 st ws u 0 0 ws none w2) (kk : kc_W p l e R s m args below meth c D cl A nL Q (pc + 3) lv st w2 u) : kc_W p l e R s m args below meth c D cl A nL Q pc lv st0 ws u := kr_run h hr kk
/-- Math.max of two ints, by the library's contract -/
theorem kr_mmax (h : kc_C p s m args c cc nL own D cl tys A) {index : Nat} {x y : Int32} (hlink : Cond.methodLink own index Lib.Math.max.name ∈ tw) (hy : Cond.static Lib.Math.max.name ∈ tw ∧ Cond.initialized "java/lang/Math" ∈ tw ∧ Cond.code Lib.Math.max.name Lib.Math.max.code 2 (some .int) ∈ tw) (hdg : decode cc pc = .ok (.invokestatic index, 3)) (hf : 1 ≤ R.frames) (hlo : (st.map fun v => v.category).sum + 13 ≤ R.locals) (hc : u.1 ≤ R.cells) (hs : u.2 ≤ R.slots)
    (kk : ∀ v : Int32, v = (if x < y then y else x) → kc_W p l e R s m args below meth c D cl A nL Q (pc + 3) lv (.int v :: st) ws u) : kc_W p l e R s m args below meth c D cl A nL Q pc lv (.int y :: .int x :: st) ws u :=
  fun H locs ls hP hD hS hv => va_mmax h.1 h.2.1 (h.2.2.1.trans hv.1.symm) h.2.2.2.1 (h.2.2.2.2.1 _ hlink) (h.2.2.2.2.1 _ hy.1) (h.2.2.2.2.1 _ hy.2.1) (h.2.2.2.2.1 _ hy.2.2) hf hlo hc hs hdg (kk _ rfl H locs ls hP hD hS hv)
end KE
end
section
theorem kc_startF {l : Launch} {y : MethodName} {bytes : ByteArray} {maxL : Nat} {ret : Option FieldType} {fr lo mc ms : Nat} {av : List Value} {D : va_G} {cl : List vw_C} {tys : List (ClassId × FieldType)} {w w2 : va_W} {r : Option Value} (own : String) (hy : plainFor y = true) (hcls : y.cls = own) (hlen : (lg_sl av).length ≤ maxL)
    (body : ∀ (p : Program) (e : Env) (s : State) (m : MethodId) (below : List Frame) (meth : Method) (c : Code), kc_C p s m av.toArray c bytes maxL own D cl tys (va_A w s.heap.size) → meth.sig.returnType = ret → meth.locks = false → meth.name = y.name →
      kc_W p l e { frames := fr, cells := mc, slots := ms, locals := lo } s m av.toArray below meth c D cl (va_A w s.heap.size) maxL (MQ below (kc_Post r D cl w w2 s.heap.size) av.toArray s mc ms (va_A w s.heap.size)) 0 (lv_args 0 av) [] w (0, 0)) :
    kc_M l y bytes maxL ret fr lo mc ms av D cl tys w r w2 := by
  intro sz
  refine va_MetF (cc := bytes) (maxL := maxL) (ret := ret) hy rfl ?_
  intro p e s m args below meth c s₁ B hml hv
  obtain ⟨rfl, hsz, hP, hK, hD0⟩ := hv
  subst hsz
  have hts := atoms_spec (ws := Cond.code y bytes maxL ret :: tw) B.pre
  have hown : s.vm.findClass own = some m.cls := by rw [← hcls]; exact findClass_of_methodNamed B.named
  have hnm : meth.name = y.name := (name_of_methodNamed B.named B.method).1
  have hl := lv_entry av (n := maxL) hlen
  rw [lg_entry_eq]
  exact body p e s m below meth c ⟨B.exec, B.bytes, hml, hown, fun w hw => hts w (List.mem_cons_of_mem _ hw), hK, fun q hq => Or.inr hq⟩ B.returns B.notSynchronized hnm s.heap [] _ hP hD0.self va_S.rf hl
end
section
theorem tw_t {w : Cond} (K : Nat) (h : tables_1[K]? = some w) (g : goodWord w = true) : w ∈ tw := List.mem_filter.mpr ⟨List.mem_append_right _ (List.mem_of_getElem? h), g⟩
theorem tw_l {w : Cond} (h : w ∈ lw_tbl) (g : goodWord w = true) : w ∈ tw := List.mem_filter.mpr ⟨h, g⟩
theorem tw_p (y : MethodName) (n : Nat) (h : (y, n) ∈ lw_privs) (g : goodWord (Cond.selects y.cls y y) = true) : Cond.selects y.cls y y ∈ tw := tw_l (List.mem_append_left _ (List.mem_map.mpr ⟨(y, n), h, rfl⟩)) g
def RX0 : String := "PolicyMonitor"
def TX0 : u_T := fun k => match k with
  | 0 => ("PolicyMonitor", "kinds", "[I", true)
  | 1 => ("PolicyMonitor", "operandA", "[I", true)
  | 2 => ("PolicyMonitor", "operandB", "[I", true)
  | 3 => ("PolicyMonitor", "operandC", "[I", true)
  | 4 => ("PolicyMonitor", "levels", "[I", true)
  | 5 => ("PolicyMonitor", "used", "[Z", true)
  | 6 => ("PolicyMonitor", "progress", "[I", true)
  | 7 => ("PolicyMonitor", "spent", "[Z", true)
  | 8 => ("PolicyMonitor", "entries", "[I", true)
  | 9 => ("PolicyMonitor", "totals", "[I", true)
  | 10 => ("PolicyMonitor", "notes", "[I", true)
  | 11 => ("PolicyMonitor", "policyCount", "I", false)
  | 12 => ("PolicyMonitor", "noteCount", "I", false)
  | 13 => ("PolicyMonitor", "doneCount", "I", false)
  | 14 => ("PolicyMonitor", "replacedCount", "I", false)
  | 15 => ("PolicyMonitor", "thrownCount", "I", false)
  | 16 => ("PolicyMonitor", "installed", "I", false)
  | 17 => ("PolicyMonitor", "stopped", "Z", false)
  | _ => ("PolicyMonitor", "answer", "I", false)
def tyX0 : Nat → FieldType := fun k => match k with
  | 0 => .array .int
  | 1 => .array .int
  | 2 => .array .int
  | 3 => .array .int
  | 4 => .array .int
  | 5 => .array .boolean
  | 6 => .array .int
  | 7 => .array .boolean
  | 8 => .array .int
  | 9 => .array .int
  | 10 => .array .int
  | 11 => .int
  | 12 => .int
  | 13 => .int
  | 14 => .int
  | 15 => .int
  | 16 => .int
  | 17 => .boolean
  | _ => .int
theorem iX0 : ∀ w ∈ u_ws RX0 TX0 19, w ∈ lw_tbl := by decide +kernel
theorem gX0 : (u_ws RX0 TX0 19).all goodWord = true := by decide +kernel
theorem FX0ok : kc_F RX0 TX0 19 tyX0 := ⟨fun w h => tw_l (iX0 w h) (List.all_eq_true.mp gX0 w h), by decide +kernel, by decide +kernel⟩
theorem flX0_9 : Cond.fieldLink RX0 9 RX0 "kinds" "[I" ∈ tw := tw_t 19 (by decide +kernel) (by decide +kernel)
theorem flX0_13 : Cond.fieldLink RX0 13 RX0 "operandA" "[I" ∈ tw := tw_t 20 (by decide +kernel) (by decide +kernel)
theorem flX0_16 : Cond.fieldLink RX0 16 RX0 "operandB" "[I" ∈ tw := tw_t 21 (by decide +kernel) (by decide +kernel)
theorem flX0_19 : Cond.fieldLink RX0 19 RX0 "operandC" "[I" ∈ tw := tw_t 22 (by decide +kernel) (by decide +kernel)
theorem flX0_22 : Cond.fieldLink RX0 22 RX0 "levels" "[I" ∈ tw := tw_t 23 (by decide +kernel) (by decide +kernel)
theorem flX0_25 : Cond.fieldLink RX0 25 RX0 "used" "[Z" ∈ tw := tw_t 24 (by decide +kernel) (by decide +kernel)
theorem flX0_29 : Cond.fieldLink RX0 29 RX0 "progress" "[I" ∈ tw := tw_t 25 (by decide +kernel) (by decide +kernel)
theorem flX0_32 : Cond.fieldLink RX0 32 RX0 "spent" "[Z" ∈ tw := tw_t 26 (by decide +kernel) (by decide +kernel)
theorem flX0_35 : Cond.fieldLink RX0 35 RX0 "entries" "[I" ∈ tw := tw_t 27 (by decide +kernel) (by decide +kernel)
theorem flX0_38 : Cond.fieldLink RX0 38 RX0 "totals" "[I" ∈ tw := tw_t 28 (by decide +kernel) (by decide +kernel)
theorem flX0_41 : Cond.fieldLink RX0 41 RX0 "notes" "[I" ∈ tw := tw_t 29 (by decide +kernel) (by decide +kernel)
theorem flX0_93 : Cond.fieldLink RX0 93 RX0 "policyCount" "I" ∈ tw := tw_t 30 (by decide +kernel) (by decide +kernel)
theorem flX0_148 : Cond.fieldLink RX0 148 RX0 "noteCount" "I" ∈ tw := tw_t 31 (by decide +kernel) (by decide +kernel)
theorem flX0_156 : Cond.fieldLink RX0 156 RX0 "doneCount" "I" ∈ tw := tw_t 32 (by decide +kernel) (by decide +kernel)
theorem flX0_159 : Cond.fieldLink RX0 159 RX0 "replacedCount" "I" ∈ tw := tw_t 33 (by decide +kernel) (by decide +kernel)
theorem flX0_125 : Cond.fieldLink RX0 125 RX0 "thrownCount" "I" ∈ tw := tw_t 34 (by decide +kernel) (by decide +kernel)
theorem flX0_44 : Cond.fieldLink RX0 44 RX0 "installed" "I" ∈ tw := tw_t 35 (by decide +kernel) (by decide +kernel)
theorem flX0_110 : Cond.fieldLink RX0 110 RX0 "stopped" "Z" ∈ tw := tw_t 36 (by decide +kernel) (by decide +kernel)
theorem flX0_122 : Cond.fieldLink RX0 122 RX0 "answer" "I" ∈ tw := tw_t 37 (by decide +kernel) (by decide +kernel)
def RJ9 : String := "java/lang/Math"
abbrev cX0_init : ByteArray := prog_1_method_1_code
def yX0_init : MethodName := ⟨RX0, "<init>", "()V"⟩
abbrev cX0_table : ByteArray := prog_1_method_2_code
def yX0_table : MethodName := ⟨RX0, "table", "(IIII)I"⟩
abbrev cX0_policy : ByteArray := prog_1_method_3_code
def yX0_policy : MethodName := ⟨RX0, "policy", "(IIII)I"⟩
abbrev cX0_install : ByteArray := prog_1_method_4_code
def yX0_install : MethodName := ⟨RX0, "install", "(I)I"⟩
abbrev cX0_act : ByteArray := prog_1_method_5_code
def yX0_act : MethodName := ⟨RX0, "act", "(II)I"⟩
abbrev cX0_ask : ByteArray := prog_1_method_6_code
def yX0_ask : MethodName := ⟨RX0, "ask", "(II)I"⟩
abbrev cX0_detail : ByteArray := prog_1_method_7_code
def yX0_detail : MethodName := ⟨RX0, "detail", "(III)I"⟩
abbrev cX0_total : ByteArray := prog_1_method_8_code
def yX0_total : MethodName := ⟨RX0, "total", "(I)I"⟩
abbrev cX0_state : ByteArray := prog_1_method_9_code
def yX0_state : MethodName := ⟨RX0, "state", "(I)I"⟩
abbrev cX0_noted : ByteArray := prog_1_method_10_code
def yX0_noted : MethodName := ⟨RX0, "noted", "(I)I"⟩
abbrev cX0_count : ByteArray := prog_1_method_11_code
def yX0_count : MethodName := ⟨RX0, "count", "(I)I"⟩
abbrev cX0_isBelow : ByteArray := prog_1_method_12_code
def yX0_isBelow : MethodName := ⟨RX0, "isBelow", "(II)Z"⟩
abbrev cX0_isSort : ByteArray := prog_1_method_13_code
def yX0_isSort : MethodName := ⟨RX0, "isSort", "(I)Z"⟩
abbrev cX0_isSet : ByteArray := prog_1_method_14_code
def yX0_isSet : MethodName := ⟨RX0, "isSet", "(I)Z"⟩
abbrev cX0_isTable : ByteArray := prog_1_method_15_code
def yX0_isTable : MethodName := ⟨RX0, "isTable", "(I)Z"⟩
abbrev cX0_isPolicy : ByteArray := prog_1_method_16_code
def yX0_isPolicy : MethodName := ⟨RX0, "isPolicy", "(I)Z"⟩
abbrev cX0_inSet : ByteArray := prog_1_method_17_code
def yX0_inSet : MethodName := ⟨RX0, "inSet", "(II)Z"⟩
abbrev cX0_entryPlace : ByteArray := prog_1_method_18_code
def yX0_entryPlace : MethodName := ⟨RX0, "entryPlace", "(III)I"⟩
abbrev cX0_isPair : ByteArray := prog_1_method_19_code
def yX0_isPair : MethodName := ⟨RX0, "isPair", "(I)Z"⟩
abbrev cX0_hasPolicyA : ByteArray := prog_1_method_20_code
def yX0_hasPolicyA : MethodName := ⟨RX0, "hasPolicyA", "(I)Z"⟩
abbrev cX0_hasPolicyB : ByteArray := prog_1_method_21_code
def yX0_hasPolicyB : MethodName := ⟨RX0, "hasPolicyB", "(I)Z"⟩
abbrev cX0_isAsSaid : ByteArray := prog_1_method_22_code
def yX0_isAsSaid : MethodName := ⟨RX0, "isAsSaid", "(IIII)Z"⟩
abbrev cX0_canBeTurned : ByteArray := prog_1_method_23_code
def yX0_canBeTurned : MethodName := ⟨RX0, "canBeTurned", "(I)Z"⟩
abbrev cX0_isTaken : ByteArray := prog_1_method_24_code
def yX0_isTaken : MethodName := ⟨RX0, "isTaken", "(III)Z"⟩
abbrev cX0_levelAbove : ByteArray := prog_1_method_25_code
def yX0_levelAbove : MethodName := ⟨RX0, "levelAbove", "(III)I"⟩
abbrev cX0_addPolicy : ByteArray := prog_1_method_26_code
def yX0_addPolicy : MethodName := ⟨RX0, "addPolicy", "(IIIII)I"⟩
abbrev cX0_suggestionFrom : ByteArray := prog_1_method_27_code
def yX0_suggestionFrom : MethodName := ⟨RX0, "suggestionFrom", "(II)I"⟩
abbrev cX0_kindOf : ByteArray := prog_1_method_28_code
def yX0_kindOf : MethodName := ⟨RX0, "kindOf", "(I)I"⟩
abbrev cX0_sourceOf : ByteArray := prog_1_method_29_code
def yX0_sourceOf : MethodName := ⟨RX0, "sourceOf", "(I)I"⟩
abbrev cX0_suggestNow : ByteArray := prog_1_method_30_code
def yX0_suggestNow : MethodName := ⟨RX0, "suggestNow", "(II)I"⟩
abbrev cX0_suggest : ByteArray := prog_1_method_31_code
def yX0_suggest : MethodName := ⟨RX0, "suggest", "(IIIZ)I"⟩
abbrev cX0_suggestOfPair : ByteArray := prog_1_method_32_code
def yX0_suggestOfPair : MethodName := ⟨RX0, "suggestOfPair", "(IIIZ)I"⟩
abbrev cX0_takesFirst : ByteArray := prog_1_method_33_code
def yX0_takesFirst : MethodName := ⟨RX0, "takesFirst", "(III)Z"⟩
abbrev cX0_nextEntry : ByteArray := prog_1_method_34_code
def yX0_nextEntry : MethodName := ⟨RX0, "nextEntry", "(II)I"⟩
abbrev cX0_suggestOfEntry : ByteArray := prog_1_method_35_code
def yX0_suggestOfEntry : MethodName := ⟨RX0, "suggestOfEntry", "(I)I"⟩
abbrev cX0_suggestInSet : ByteArray := prog_1_method_36_code
def yX0_suggestInSet : MethodName := ⟨RX0, "suggestInSet", "(II)I"⟩
abbrev cX0_okOnlyIf : ByteArray := prog_1_method_37_code
def yX0_okOnlyIf : MethodName := ⟨RX0, "okOnlyIf", "(Z)I"⟩
abbrev cX0_addNote : ByteArray := prog_1_method_38_code
def yX0_addNote : MethodName := ⟨RX0, "addNote", "(I)V"⟩
abbrev cX0_accept : ByteArray := prog_1_method_39_code
def yX0_accept : MethodName := ⟨RX0, "accept", "(III)V"⟩
abbrev cX0_step : ByteArray := prog_1_method_40_code
def yX0_step : MethodName := ⟨RX0, "step", "(II)V"⟩
abbrev cX0_actAtDepth : ByteArray := prog_1_method_41_code
def yX0_actAtDepth : MethodName := ⟨RX0, "actAtDepth", "(III)I"⟩
abbrev cX0_follow : ByteArray := prog_1_method_42_code
def yX0_follow : MethodName := ⟨RX0, "follow", "(III)I"⟩
abbrev cX0_perform : ByteArray := prog_1_method_43_code
def yX0_perform : MethodName := ⟨RX0, "perform", "(II)V"⟩
abbrev cX0_forgetSpent : ByteArray := prog_1_method_44_code
def yX0_forgetSpent : MethodName := ⟨RX0, "forgetSpent", "()V"⟩
abbrev cJ9_floorMod : ByteArray := prog_8_method_50_code
def yJ9_floorMod : MethodName := ⟨RJ9, "floorMod", "(II)I"⟩
theorem mlX0_1 : Cond.methodLink RX0 1 (⟨"java/lang/Object", "<init>", "()V"⟩ : MethodName) ∈ tw := tw_t 16 (by decide +kernel) (by decide +kernel)
theorem mlX0_105 : Cond.methodLink RX0 105 yX0_isPolicy ∈ tw := tw_t 83 (by decide +kernel) (by decide +kernel)
theorem mlX0_52 : Cond.methodLink RX0 52 yX0_isBelow ∈ tw := tw_t 87 (by decide +kernel) (by decide +kernel)
theorem mlX0_151 : Cond.methodLink RX0 151 yJ9_floorMod ∈ tw := tw_t 94 (by decide +kernel) (by decide +kernel)
theorem mlX0_48 : Cond.methodLink RX0 48 yX0_isTable ∈ tw := tw_t 109 (by decide +kernel) (by decide +kernel)
theorem mlX0_56 : Cond.methodLink RX0 56 yX0_isSort ∈ tw := tw_t 112 (by decide +kernel) (by decide +kernel)
theorem mlX0_63 : Cond.methodLink RX0 63 (⟨"java/lang/IllegalArgumentException", "<init>", "(Ljava/lang/String;)V"⟩ : MethodName) ∈ tw := tw_t 158 (by decide +kernel) (by decide +kernel)
theorem mlX0_66 : Cond.methodLink RX0 66 yX0_entryPlace ∈ tw := tw_t 184 (by decide +kernel) (by decide +kernel)
theorem mlX0_70 : Cond.methodLink RX0 70 yX0_isAsSaid ∈ tw := tw_t 197 (by decide +kernel) (by decide +kernel)
theorem mlX0_165 : Cond.methodLink RX0 165 yX0_isSet ∈ tw := tw_t 201 (by decide +kernel) (by decide +kernel)
theorem mlX0_168 : Cond.methodLink RX0 168 yX0_canBeTurned ∈ tw := tw_t 204 (by decide +kernel) (by decide +kernel)
theorem mlX0_76 : Cond.methodLink RX0 76 yX0_isTaken ∈ tw := tw_t 208 (by decide +kernel) (by decide +kernel)
theorem mlX0_171 : Cond.methodLink RX0 171 yX0_hasPolicyA ∈ tw := tw_t 212 (by decide +kernel) (by decide +kernel)
theorem mlX0_162 : Cond.methodLink RX0 162 yX0_isPair ∈ tw := tw_t 215 (by decide +kernel) (by decide +kernel)
theorem mlX0_174 : Cond.methodLink RX0 174 yX0_hasPolicyB ∈ tw := tw_t 218 (by decide +kernel) (by decide +kernel)
theorem mlX0_84 : Cond.methodLink RX0 84 (⟨"java/lang/IllegalStateException", "<init>", "(Ljava/lang/String;)V"⟩ : MethodName) ∈ tw := tw_t 231 (by decide +kernel) (by decide +kernel)
theorem mlX0_85 : Cond.methodLink RX0 85 yX0_levelAbove ∈ tw := tw_t 237 (by decide +kernel) (by decide +kernel)
theorem mlX0_177 : Cond.methodLink RX0 177 Lib.Math.max.name ∈ tw := tw_t 241 (by decide +kernel) (by decide +kernel)
theorem mlX0_92 : Cond.methodLink RX0 92 (⟨"java/lang/UnsupportedOperationException", "<init>", "(Ljava/lang/String;)V"⟩ : MethodName) ∈ tw := tw_t 254 (by decide +kernel) (by decide +kernel)
theorem mlX0_100 : Cond.methodLink RX0 100 (⟨"java/lang/ArithmeticException", "<init>", "(Ljava/lang/String;)V"⟩ : MethodName) ∈ tw := tw_t 270 (by decide +kernel) (by decide +kernel)
theorem mlX0_101 : Cond.methodLink RX0 101 yX0_addPolicy ∈ tw := tw_t 276 (by decide +kernel) (by decide +kernel)
theorem mlX0_116 : Cond.methodLink RX0 116 yX0_actAtDepth ∈ tw := tw_t 296 (by decide +kernel) (by decide +kernel)
theorem mlX0_221 : Cond.methodLink RX0 221 yX0_perform ∈ tw := tw_t 300 (by decide +kernel) (by decide +kernel)
theorem mlX0_180 : Cond.methodLink RX0 180 yX0_suggest ∈ tw := tw_t 304 (by decide +kernel) (by decide +kernel)
theorem mlX0_184 : Cond.methodLink RX0 184 yX0_suggestOfPair ∈ tw := tw_t 308 (by decide +kernel) (by decide +kernel)
theorem mlX0_137 : Cond.methodLink RX0 137 yX0_kindOf ∈ tw := tw_t 312 (by decide +kernel) (by decide +kernel)
theorem mlX0_203 : Cond.methodLink RX0 203 yX0_takesFirst ∈ tw := tw_t 315 (by decide +kernel) (by decide +kernel)
theorem mlX0_187 : Cond.methodLink RX0 187 yX0_inSet ∈ tw := tw_t 318 (by decide +kernel) (by decide +kernel)
theorem mlX0_190 : Cond.methodLink RX0 190 yX0_addNote ∈ tw := tw_t 321 (by decide +kernel) (by decide +kernel)
theorem mlX0_194 : Cond.methodLink RX0 194 yX0_nextEntry ∈ tw := tw_t 325 (by decide +kernel) (by decide +kernel)
theorem mlX0_197 : Cond.methodLink RX0 197 yX0_suggestOfEntry ∈ tw := tw_t 329 (by decide +kernel) (by decide +kernel)
theorem mlX0_206 : Cond.methodLink RX0 206 yX0_okOnlyIf ∈ tw := tw_t 332 (by decide +kernel) (by decide +kernel)
theorem mlX0_200 : Cond.methodLink RX0 200 yX0_suggestInSet ∈ tw := tw_t 335 (by decide +kernel) (by decide +kernel)
theorem mlX0_210 : Cond.methodLink RX0 210 yX0_suggestionFrom ∈ tw := tw_t 339 (by decide +kernel) (by decide +kernel)
theorem mlX0_224 : Cond.methodLink RX0 224 yX0_follow ∈ tw := tw_t 342 (by decide +kernel) (by decide +kernel)
theorem mlX0_145 : Cond.methodLink RX0 145 yX0_sourceOf ∈ tw := tw_t 346 (by decide +kernel) (by decide +kernel)
theorem mlX0_217 : Cond.methodLink RX0 217 yX0_accept ∈ tw := tw_t 349 (by decide +kernel) (by decide +kernel)
theorem mlX0_213 : Cond.methodLink RX0 213 yX0_step ∈ tw := tw_t 353 (by decide +kernel) (by decide +kernel)
theorem mlX0_119 : Cond.methodLink RX0 119 yX0_forgetSpent ∈ tw := tw_t 357 (by decide +kernel) (by decide +kernel)
theorem mlX0_133 : Cond.methodLink RX0 133 yX0_suggestNow ∈ tw := tw_t 371 (by decide +kernel) (by decide +kernel)
theorem imX0_init : Cond.instanceMethod yX0_init ∈ tw := tw_t 14 (by decide +kernel) (by decide +kernel)
theorem cdX0_init : Cond.code yX0_init cX0_init 2 none ∈ tw := tw_t 15 (by decide +kernel) (by decide +kernel)
theorem yvX0_table : kc_yv yX0_table cX0_table 7 (some .int) RX0 4 := ⟨tw_t 106 (by decide +kernel) (by decide +kernel), tw_t 107 (by decide +kernel) (by decide +kernel), tw_t 1 (by decide +kernel) (by decide +kernel), tw_t 108 (by decide +kernel) (by decide +kernel), rfl, ⟨by decide +kernel, by decide +kernel, by decide +kernel⟩⟩
theorem yvX0_policy : kc_yv yX0_policy cX0_policy 6 (some .int) RX0 4 := ⟨tw_t 194 (by decide +kernel) (by decide +kernel), tw_t 195 (by decide +kernel) (by decide +kernel), tw_t 1 (by decide +kernel) (by decide +kernel), tw_t 196 (by decide +kernel) (by decide +kernel), rfl, ⟨by decide +kernel, by decide +kernel, by decide +kernel⟩⟩
theorem yvX0_install : kc_yv yX0_install cX0_install 3 (some .int) RX0 1 := ⟨tw_t 284 (by decide +kernel) (by decide +kernel), tw_t 285 (by decide +kernel) (by decide +kernel), tw_t 1 (by decide +kernel) (by decide +kernel), tw_t 286 (by decide +kernel) (by decide +kernel), rfl, ⟨by decide +kernel, by decide +kernel, by decide +kernel⟩⟩
theorem yvX0_act : kc_yv yX0_act cX0_act 4 (some .int) RX0 2 := ⟨tw_t 292 (by decide +kernel) (by decide +kernel), tw_t 293 (by decide +kernel) (by decide +kernel), tw_t 1 (by decide +kernel) (by decide +kernel), tw_t 294 (by decide +kernel) (by decide +kernel), rfl, ⟨by decide +kernel, by decide +kernel, by decide +kernel⟩⟩
theorem yvX0_ask : kc_yv yX0_ask cX0_ask 3 (some .int) RX0 2 := ⟨tw_t 368 (by decide +kernel) (by decide +kernel), tw_t 369 (by decide +kernel) (by decide +kernel), tw_t 1 (by decide +kernel) (by decide +kernel), tw_t 370 (by decide +kernel) (by decide +kernel), rfl, ⟨by decide +kernel, by decide +kernel, by decide +kernel⟩⟩
theorem yvX0_detail : kc_yv yX0_detail cX0_detail 7 (some .int) RX0 3 := ⟨tw_t 379 (by decide +kernel) (by decide +kernel), tw_t 380 (by decide +kernel) (by decide +kernel), tw_t 1 (by decide +kernel) (by decide +kernel), tw_t 381 (by decide +kernel) (by decide +kernel), rfl, ⟨by decide +kernel, by decide +kernel, by decide +kernel⟩⟩
theorem yvX0_total : kc_yv yX0_total cX0_total 2 (some .int) RX0 1 := ⟨tw_t 388 (by decide +kernel) (by decide +kernel), tw_t 389 (by decide +kernel) (by decide +kernel), tw_t 1 (by decide +kernel) (by decide +kernel), tw_t 390 (by decide +kernel) (by decide +kernel), rfl, ⟨by decide +kernel, by decide +kernel, by decide +kernel⟩⟩
theorem yvX0_state : kc_yv yX0_state cX0_state 3 (some .int) RX0 1 := ⟨tw_t 80 (by decide +kernel) (by decide +kernel), tw_t 81 (by decide +kernel) (by decide +kernel), tw_t 1 (by decide +kernel) (by decide +kernel), tw_t 82 (by decide +kernel) (by decide +kernel), rfl, ⟨by decide +kernel, by decide +kernel, by decide +kernel⟩⟩
theorem yvX0_noted : kc_yv yX0_noted cX0_noted 2 (some .int) RX0 1 := ⟨tw_t 91 (by decide +kernel) (by decide +kernel), tw_t 92 (by decide +kernel) (by decide +kernel), tw_t 1 (by decide +kernel) (by decide +kernel), tw_t 93 (by decide +kernel) (by decide +kernel), rfl, ⟨by decide +kernel, by decide +kernel, by decide +kernel⟩⟩
theorem yvX0_count : kc_yv yX0_count cX0_count 2 (some .int) RX0 1 := ⟨tw_t 98 (by decide +kernel) (by decide +kernel), tw_t 99 (by decide +kernel) (by decide +kernel), tw_t 1 (by decide +kernel) (by decide +kernel), tw_t 100 (by decide +kernel) (by decide +kernel), rfl, ⟨by decide +kernel, by decide +kernel, by decide +kernel⟩⟩
theorem ysX0_isBelow : kc_ys yX0_isBelow cX0_isBelow 2 (some .boolean) 2 := ⟨tw_t 88 (by decide +kernel) (by decide +kernel), tw_t 1 (by decide +kernel) (by decide +kernel), tw_t 89 (by decide +kernel) (by decide +kernel), ⟨by decide +kernel, by decide +kernel, by decide +kernel⟩⟩
theorem ysX0_isSort : kc_ys yX0_isSort cX0_isSort 1 (some .boolean) 1 := ⟨tw_t 113 (by decide +kernel) (by decide +kernel), tw_t 1 (by decide +kernel) (by decide +kernel), tw_t 114 (by decide +kernel) (by decide +kernel), ⟨by decide +kernel, by decide +kernel, by decide +kernel⟩⟩
theorem ysX0_isSet : kc_ys yX0_isSet cX0_isSet 1 (some .boolean) 1 := ⟨tw_t 202 (by decide +kernel) (by decide +kernel), tw_t 1 (by decide +kernel) (by decide +kernel), tw_t 203 (by decide +kernel) (by decide +kernel), ⟨by decide +kernel, by decide +kernel, by decide +kernel⟩⟩
theorem ysX0_isTable : kc_ys yX0_isTable cX0_isTable 1 (some .boolean) 1 := ⟨tw_t 110 (by decide +kernel) (by decide +kernel), tw_t 1 (by decide +kernel) (by decide +kernel), tw_t 111 (by decide +kernel) (by decide +kernel), ⟨by decide +kernel, by decide +kernel, by decide +kernel⟩⟩
theorem yvX0_isPolicy : kc_yv yX0_isPolicy cX0_isPolicy 2 (some .boolean) RX0 1 := ⟨tw_t 85 (by decide +kernel) (by decide +kernel), tw_p yX0_isPolicy 19 (by decide +kernel) (by decide +kernel), tw_t 1 (by decide +kernel) (by decide +kernel), tw_t 86 (by decide +kernel) (by decide +kernel), rfl, ⟨by decide +kernel, by decide +kernel, by decide +kernel⟩⟩
theorem ysX0_inSet : kc_ys yX0_inSet cX0_inSet 2 (some .boolean) 2 := ⟨tw_t 319 (by decide +kernel) (by decide +kernel), tw_t 1 (by decide +kernel) (by decide +kernel), tw_t 320 (by decide +kernel) (by decide +kernel), ⟨by decide +kernel, by decide +kernel, by decide +kernel⟩⟩
theorem ysX0_entryPlace : kc_ys yX0_entryPlace cX0_entryPlace 3 (some .int) 3 := ⟨tw_t 185 (by decide +kernel) (by decide +kernel), tw_t 1 (by decide +kernel) (by decide +kernel), tw_t 186 (by decide +kernel) (by decide +kernel), ⟨by decide +kernel, by decide +kernel, by decide +kernel⟩⟩
theorem ysX0_isPair : kc_ys yX0_isPair cX0_isPair 1 (some .boolean) 1 := ⟨tw_t 216 (by decide +kernel) (by decide +kernel), tw_t 1 (by decide +kernel) (by decide +kernel), tw_t 217 (by decide +kernel) (by decide +kernel), ⟨by decide +kernel, by decide +kernel, by decide +kernel⟩⟩
theorem ysX0_hasPolicyA : kc_ys yX0_hasPolicyA cX0_hasPolicyA 1 (some .boolean) 1 := ⟨tw_t 213 (by decide +kernel) (by decide +kernel), tw_t 1 (by decide +kernel) (by decide +kernel), tw_t 214 (by decide +kernel) (by decide +kernel), ⟨by decide +kernel, by decide +kernel, by decide +kernel⟩⟩
theorem ysX0_hasPolicyB : kc_ys yX0_hasPolicyB cX0_hasPolicyB 1 (some .boolean) 1 := ⟨tw_t 219 (by decide +kernel) (by decide +kernel), tw_t 1 (by decide +kernel) (by decide +kernel), tw_t 220 (by decide +kernel) (by decide +kernel), ⟨by decide +kernel, by decide +kernel, by decide +kernel⟩⟩
theorem yvX0_isAsSaid : kc_yv yX0_isAsSaid cX0_isAsSaid 5 (some .boolean) RX0 4 := ⟨tw_t 199 (by decide +kernel) (by decide +kernel), tw_p yX0_isAsSaid 19 (by decide +kernel) (by decide +kernel), tw_t 1 (by decide +kernel) (by decide +kernel), tw_t 200 (by decide +kernel) (by decide +kernel), rfl, ⟨by decide +kernel, by decide +kernel, by decide +kernel⟩⟩
theorem ysX0_canBeTurned : kc_ys yX0_canBeTurned cX0_canBeTurned 1 (some .boolean) 1 := ⟨tw_t 205 (by decide +kernel) (by decide +kernel), tw_t 1 (by decide +kernel) (by decide +kernel), tw_t 206 (by decide +kernel) (by decide +kernel), ⟨by decide +kernel, by decide +kernel, by decide +kernel⟩⟩
theorem yvX0_isTaken : kc_yv yX0_isTaken cX0_isTaken 4 (some .boolean) RX0 3 := ⟨tw_t 210 (by decide +kernel) (by decide +kernel), tw_p yX0_isTaken 19 (by decide +kernel) (by decide +kernel), tw_t 1 (by decide +kernel) (by decide +kernel), tw_t 211 (by decide +kernel) (by decide +kernel), rfl, ⟨by decide +kernel, by decide +kernel, by decide +kernel⟩⟩
theorem yvX0_levelAbove : kc_yv yX0_levelAbove cX0_levelAbove 6 (some .int) RX0 3 := ⟨tw_t 239 (by decide +kernel) (by decide +kernel), tw_p yX0_levelAbove 19 (by decide +kernel) (by decide +kernel), tw_t 1 (by decide +kernel) (by decide +kernel), tw_t 240 (by decide +kernel) (by decide +kernel), rfl, ⟨by decide +kernel, by decide +kernel, by decide +kernel⟩⟩
theorem yvX0_addPolicy : kc_yv yX0_addPolicy cX0_addPolicy 7 (some .int) RX0 5 := ⟨tw_t 278 (by decide +kernel) (by decide +kernel), tw_p yX0_addPolicy 19 (by decide +kernel) (by decide +kernel), tw_t 1 (by decide +kernel) (by decide +kernel), tw_t 279 (by decide +kernel) (by decide +kernel), rfl, ⟨by decide +kernel, by decide +kernel, by decide +kernel⟩⟩
theorem ysX0_suggestionFrom : kc_ys yX0_suggestionFrom cX0_suggestionFrom 2 (some .int) 2 := ⟨tw_t 340 (by decide +kernel) (by decide +kernel), tw_t 1 (by decide +kernel) (by decide +kernel), tw_t 341 (by decide +kernel) (by decide +kernel), ⟨by decide +kernel, by decide +kernel, by decide +kernel⟩⟩
theorem ysX0_kindOf : kc_ys yX0_kindOf cX0_kindOf 1 (some .int) 1 := ⟨tw_t 313 (by decide +kernel) (by decide +kernel), tw_t 1 (by decide +kernel) (by decide +kernel), tw_t 314 (by decide +kernel) (by decide +kernel), ⟨by decide +kernel, by decide +kernel, by decide +kernel⟩⟩
theorem ysX0_sourceOf : kc_ys yX0_sourceOf cX0_sourceOf 1 (some .int) 1 := ⟨tw_t 347 (by decide +kernel) (by decide +kernel), tw_t 1 (by decide +kernel) (by decide +kernel), tw_t 348 (by decide +kernel) (by decide +kernel), ⟨by decide +kernel, by decide +kernel, by decide +kernel⟩⟩
theorem yvX0_suggestNow : kc_yv yX0_suggestNow cX0_suggestNow 3 (some .int) RX0 2 := ⟨tw_t 373 (by decide +kernel) (by decide +kernel), tw_p yX0_suggestNow 19 (by decide +kernel) (by decide +kernel), tw_t 1 (by decide +kernel) (by decide +kernel), tw_t 374 (by decide +kernel) (by decide +kernel), rfl, ⟨by decide +kernel, by decide +kernel, by decide +kernel⟩⟩
theorem yvX0_suggest : kc_yv yX0_suggest cX0_suggest 7 (some .int) RX0 4 := ⟨tw_t 306 (by decide +kernel) (by decide +kernel), tw_p yX0_suggest 19 (by decide +kernel) (by decide +kernel), tw_t 1 (by decide +kernel) (by decide +kernel), tw_t 307 (by decide +kernel) (by decide +kernel), rfl, ⟨by decide +kernel, by decide +kernel, by decide +kernel⟩⟩
theorem yvX0_suggestOfPair : kc_yv yX0_suggestOfPair cX0_suggestOfPair 8 (some .int) RX0 4 := ⟨tw_t 310 (by decide +kernel) (by decide +kernel), tw_p yX0_suggestOfPair 19 (by decide +kernel) (by decide +kernel), tw_t 1 (by decide +kernel) (by decide +kernel), tw_t 311 (by decide +kernel) (by decide +kernel), rfl, ⟨by decide +kernel, by decide +kernel, by decide +kernel⟩⟩
theorem ysX0_takesFirst : kc_ys yX0_takesFirst cX0_takesFirst 3 (some .boolean) 3 := ⟨tw_t 316 (by decide +kernel) (by decide +kernel), tw_t 1 (by decide +kernel) (by decide +kernel), tw_t 317 (by decide +kernel) (by decide +kernel), ⟨by decide +kernel, by decide +kernel, by decide +kernel⟩⟩
theorem yvX0_nextEntry : kc_yv yX0_nextEntry cX0_nextEntry 3 (some .int) RX0 2 := ⟨tw_t 327 (by decide +kernel) (by decide +kernel), tw_p yX0_nextEntry 19 (by decide +kernel) (by decide +kernel), tw_t 1 (by decide +kernel) (by decide +kernel), tw_t 328 (by decide +kernel) (by decide +kernel), rfl, ⟨by decide +kernel, by decide +kernel, by decide +kernel⟩⟩
theorem ysX0_suggestOfEntry : kc_ys yX0_suggestOfEntry cX0_suggestOfEntry 1 (some .int) 1 := ⟨tw_t 330 (by decide +kernel) (by decide +kernel), tw_t 1 (by decide +kernel) (by decide +kernel), tw_t 331 (by decide +kernel) (by decide +kernel), ⟨by decide +kernel, by decide +kernel, by decide +kernel⟩⟩
theorem yvX0_suggestInSet : kc_yv yX0_suggestInSet cX0_suggestInSet 3 (some .int) RX0 2 := ⟨tw_t 337 (by decide +kernel) (by decide +kernel), tw_p yX0_suggestInSet 19 (by decide +kernel) (by decide +kernel), tw_t 1 (by decide +kernel) (by decide +kernel), tw_t 338 (by decide +kernel) (by decide +kernel), rfl, ⟨by decide +kernel, by decide +kernel, by decide +kernel⟩⟩
theorem ysX0_okOnlyIf : kc_ys yX0_okOnlyIf cX0_okOnlyIf 1 (some .int) 1 := ⟨tw_t 333 (by decide +kernel) (by decide +kernel), tw_t 1 (by decide +kernel) (by decide +kernel), tw_t 334 (by decide +kernel) (by decide +kernel), ⟨by decide +kernel, by decide +kernel, by decide +kernel⟩⟩
theorem yvX0_addNote : kc_yv yX0_addNote cX0_addNote 2 none RX0 1 := ⟨tw_t 323 (by decide +kernel) (by decide +kernel), tw_p yX0_addNote 19 (by decide +kernel) (by decide +kernel), tw_t 1 (by decide +kernel) (by decide +kernel), tw_t 324 (by decide +kernel) (by decide +kernel), rfl, ⟨by decide +kernel, by decide +kernel, by decide +kernel⟩⟩
theorem yvX0_accept : kc_yv yX0_accept cX0_accept 6 none RX0 3 := ⟨tw_t 351 (by decide +kernel) (by decide +kernel), tw_p yX0_accept 19 (by decide +kernel) (by decide +kernel), tw_t 1 (by decide +kernel) (by decide +kernel), tw_t 352 (by decide +kernel) (by decide +kernel), rfl, ⟨by decide +kernel, by decide +kernel, by decide +kernel⟩⟩
theorem yvX0_step : kc_yv yX0_step cX0_step 4 none RX0 2 := ⟨tw_t 355 (by decide +kernel) (by decide +kernel), tw_p yX0_step 19 (by decide +kernel) (by decide +kernel), tw_t 1 (by decide +kernel) (by decide +kernel), tw_t 356 (by decide +kernel) (by decide +kernel), rfl, ⟨by decide +kernel, by decide +kernel, by decide +kernel⟩⟩
theorem yvX0_actAtDepth : kc_yv yX0_actAtDepth cX0_actAtDepth 8 (some .int) RX0 3 := ⟨tw_t 298 (by decide +kernel) (by decide +kernel), tw_p yX0_actAtDepth 19 (by decide +kernel) (by decide +kernel), tw_t 1 (by decide +kernel) (by decide +kernel), tw_t 299 (by decide +kernel) (by decide +kernel), rfl, ⟨by decide +kernel, by decide +kernel, by decide +kernel⟩⟩
theorem yvX0_follow : kc_yv yX0_follow cX0_follow 4 (some .int) RX0 3 := ⟨tw_t 344 (by decide +kernel) (by decide +kernel), tw_p yX0_follow 19 (by decide +kernel) (by decide +kernel), tw_t 1 (by decide +kernel) (by decide +kernel), tw_t 345 (by decide +kernel) (by decide +kernel), rfl, ⟨by decide +kernel, by decide +kernel, by decide +kernel⟩⟩
theorem yvX0_perform : kc_yv yX0_perform cX0_perform 3 none RX0 2 := ⟨tw_t 302 (by decide +kernel) (by decide +kernel), tw_p yX0_perform 19 (by decide +kernel) (by decide +kernel), tw_t 1 (by decide +kernel) (by decide +kernel), tw_t 303 (by decide +kernel) (by decide +kernel), rfl, ⟨by decide +kernel, by decide +kernel, by decide +kernel⟩⟩
theorem yvX0_forgetSpent : kc_yv yX0_forgetSpent cX0_forgetSpent 2 none RX0 0 := ⟨tw_t 359 (by decide +kernel) (by decide +kernel), tw_p yX0_forgetSpent 19 (by decide +kernel) (by decide +kernel), tw_t 1 (by decide +kernel) (by decide +kernel), tw_t 360 (by decide +kernel) (by decide +kernel), rfl, ⟨by decide +kernel, by decide +kernel, by decide +kernel⟩⟩
theorem ysJ9_floorMod : kc_ys yJ9_floorMod cJ9_floorMod 3 (some .int) 2 := ⟨tw_t 95 (by decide +kernel) (by decide +kernel), tw_t 8 (by decide +kernel) (by decide +kernel), tw_t 96 (by decide +kernel) (by decide +kernel), ⟨by decide +kernel, by decide +kernel, by decide +kernel⟩⟩
theorem ys_mmax : Cond.static Lib.Math.max.name ∈ tw ∧ Cond.initialized "java/lang/Math" ∈ tw ∧ Cond.code Lib.Math.max.name Lib.Math.max.code 2 (some .int) ∈ tw := ⟨tw_t 242 (by decide +kernel) (by decide +kernel), tw_t 8 (by decide +kernel) (by decide +kernel), tw_t 243 (by decide +kernel) (by decide +kernel)⟩
end
section
theorem dX0_init_0 : decode cX0_init 0 = .ok (.aload_n 0, 1) := by decide +kernel
theorem dX0_init_1 : decode cX0_init 1 = .ok (.invokespecial 1, 3) := by decide +kernel
theorem dX0_init_4 : decode cX0_init 4 = .ok (.aload_n 0, 1) := by decide +kernel
theorem dX0_init_5 : decode cX0_init 5 = .ok (.bipush 40, 2) := by decide +kernel
theorem dX0_init_7 : decode cX0_init 7 = .ok (.newarray .int, 2) := by decide +kernel
theorem dX0_init_9 : decode cX0_init 9 = .ok (.putfield 9, 3) := by decide +kernel
theorem dX0_init_12 : decode cX0_init 12 = .ok (.aload_n 0, 1) := by decide +kernel
theorem dX0_init_13 : decode cX0_init 13 = .ok (.bipush 40, 2) := by decide +kernel
theorem dX0_init_15 : decode cX0_init 15 = .ok (.newarray .int, 2) := by decide +kernel
theorem dX0_init_17 : decode cX0_init 17 = .ok (.putfield 13, 3) := by decide +kernel
theorem dX0_init_20 : decode cX0_init 20 = .ok (.aload_n 0, 1) := by decide +kernel
theorem dX0_init_21 : decode cX0_init 21 = .ok (.bipush 40, 2) := by decide +kernel
theorem dX0_init_23 : decode cX0_init 23 = .ok (.newarray .int, 2) := by decide +kernel
theorem dX0_init_25 : decode cX0_init 25 = .ok (.putfield 16, 3) := by decide +kernel
theorem dX0_init_28 : decode cX0_init 28 = .ok (.aload_n 0, 1) := by decide +kernel
theorem dX0_init_29 : decode cX0_init 29 = .ok (.bipush 40, 2) := by decide +kernel
theorem dX0_init_31 : decode cX0_init 31 = .ok (.newarray .int, 2) := by decide +kernel
theorem dX0_init_33 : decode cX0_init 33 = .ok (.putfield 19, 3) := by decide +kernel
theorem dX0_init_36 : decode cX0_init 36 = .ok (.aload_n 0, 1) := by decide +kernel
theorem dX0_init_37 : decode cX0_init 37 = .ok (.bipush 40, 2) := by decide +kernel
theorem dX0_init_39 : decode cX0_init 39 = .ok (.newarray .int, 2) := by decide +kernel
theorem dX0_init_41 : decode cX0_init 41 = .ok (.putfield 22, 3) := by decide +kernel
theorem dX0_init_44 : decode cX0_init 44 = .ok (.aload_n 0, 1) := by decide +kernel
theorem dX0_init_45 : decode cX0_init 45 = .ok (.bipush 40, 2) := by decide +kernel
theorem dX0_init_47 : decode cX0_init 47 = .ok (.newarray .boolean, 2) := by decide +kernel
theorem dX0_init_49 : decode cX0_init 49 = .ok (.putfield 25, 3) := by decide +kernel
theorem dX0_init_52 : decode cX0_init 52 = .ok (.aload_n 0, 1) := by decide +kernel
theorem dX0_init_53 : decode cX0_init 53 = .ok (.bipush 40, 2) := by decide +kernel
theorem dX0_init_55 : decode cX0_init 55 = .ok (.newarray .int, 2) := by decide +kernel
theorem dX0_init_57 : decode cX0_init 57 = .ok (.putfield 29, 3) := by decide +kernel
theorem dX0_init_60 : decode cX0_init 60 = .ok (.aload_n 0, 1) := by decide +kernel
theorem dX0_init_61 : decode cX0_init 61 = .ok (.bipush 40, 2) := by decide +kernel
theorem dX0_init_63 : decode cX0_init 63 = .ok (.newarray .boolean, 2) := by decide +kernel
theorem dX0_init_65 : decode cX0_init 65 = .ok (.putfield 32, 3) := by decide +kernel
theorem dX0_init_68 : decode cX0_init 68 = .ok (.aload_n 0, 1) := by decide +kernel
theorem dX0_init_69 : decode cX0_init 69 = .ok (.bipush 96, 2) := by decide +kernel
theorem dX0_init_71 : decode cX0_init 71 = .ok (.newarray .int, 2) := by decide +kernel
theorem dX0_init_73 : decode cX0_init 73 = .ok (.putfield 35, 3) := by decide +kernel
theorem dX0_init_76 : decode cX0_init 76 = .ok (.iconst 0, 1) := by decide +kernel
theorem dX0_init_77 : decode cX0_init 77 = .ok (.istore_n 1, 1) := by decide +kernel
theorem dX0_init_78 : decode cX0_init 78 = .ok (.iload_n 1, 1) := by decide +kernel
theorem dX0_init_79 : decode cX0_init 79 = .ok (.aload_n 0, 1) := by decide +kernel
theorem dX0_init_80 : decode cX0_init 80 = .ok (.getfield 35, 3) := by decide +kernel
theorem dX0_init_83 : decode cX0_init 83 = .ok (.arraylength, 1) := by decide +kernel
theorem dX0_init_84 : decode cX0_init 84 = .ok (.if_icmp .ge 16, 3) := by decide +kernel
theorem dX0_init_87 : decode cX0_init 87 = .ok (.aload_n 0, 1) := by decide +kernel
theorem dX0_init_88 : decode cX0_init 88 = .ok (.getfield 35, 3) := by decide +kernel
theorem dX0_init_91 : decode cX0_init 91 = .ok (.iload_n 1, 1) := by decide +kernel
theorem dX0_init_92 : decode cX0_init 92 = .ok (.iconst 5, 1) := by decide +kernel
theorem dX0_init_93 : decode cX0_init 93 = .ok (.iastore, 1) := by decide +kernel
theorem dX0_init_94 : decode cX0_init 94 = .ok (.iinc 1 1, 3) := by decide +kernel
theorem dX0_init_97 : decode cX0_init 97 = .ok (.goto (-19), 3) := by decide +kernel
theorem dX0_init_100 : decode cX0_init 100 = .ok (.aload_n 0, 1) := by decide +kernel
theorem dX0_init_101 : decode cX0_init 101 = .ok (.bipush 8, 2) := by decide +kernel
theorem dX0_init_103 : decode cX0_init 103 = .ok (.newarray .int, 2) := by decide +kernel
theorem dX0_init_105 : decode cX0_init 105 = .ok (.putfield 38, 3) := by decide +kernel
theorem dX0_init_108 : decode cX0_init 108 = .ok (.aload_n 0, 1) := by decide +kernel
theorem dX0_init_109 : decode cX0_init 109 = .ok (.bipush 16, 2) := by decide +kernel
theorem dX0_init_111 : decode cX0_init 111 = .ok (.newarray .int, 2) := by decide +kernel
theorem dX0_init_113 : decode cX0_init 113 = .ok (.putfield 41, 3) := by decide +kernel
theorem dX0_init_116 : decode cX0_init 116 = .ok (.aload_n 0, 1) := by decide +kernel
theorem dX0_init_117 : decode cX0_init 117 = .ok (.iconst (-1), 1) := by decide +kernel
theorem dX0_init_118 : decode cX0_init 118 = .ok (.putfield 44, 3) := by decide +kernel
theorem dX0_init_121 : decode cX0_init 121 = .ok (.return_, 1) := by decide +kernel
theorem dX0_table_0 : decode cX0_table 0 = .ok (.iload_n 1, 1) := by decide +kernel
theorem dX0_table_1 : decode cX0_table 1 = .ok (.invokestatic 48, 3) := by decide +kernel
theorem dX0_table_4 : decode cX0_table 4 = .ok (.ifCond .eq 28, 3) := by decide +kernel
theorem dX0_table_7 : decode cX0_table 7 = .ok (.iload_n 2, 1) := by decide +kernel
theorem dX0_table_8 : decode cX0_table 8 = .ok (.iconst 4, 1) := by decide +kernel
theorem dX0_table_9 : decode cX0_table 9 = .ok (.invokestatic 52, 3) := by decide +kernel
theorem dX0_table_12 : decode cX0_table 12 = .ok (.ifCond .eq 20, 3) := by decide +kernel
theorem dX0_table_15 : decode cX0_table 15 = .ok (.iload_n 3, 1) := by decide +kernel
theorem dX0_table_16 : decode cX0_table 16 = .ok (.invokestatic 56, 3) := by decide +kernel
theorem dX0_table_19 : decode cX0_table 19 = .ok (.ifCond .eq 13, 3) := by decide +kernel
theorem dX0_table_22 : decode cX0_table 22 = .ok (.iload 4, 2) := by decide +kernel
theorem dX0_table_24 : decode cX0_table 24 = .ok (.bipush 6, 2) := by decide +kernel
theorem dX0_table_26 : decode cX0_table 26 = .ok (.invokestatic 52, 3) := by decide +kernel
theorem dX0_table_29 : decode cX0_table 29 = .ok (.ifCond .ne 13, 3) := by decide +kernel
theorem dX0_table_32 : decode cX0_table 32 = .ok (.new 59, 3) := by decide +kernel
theorem dX0_table_35 : decode cX0_table 35 = .ok (.dup, 1) := by decide +kernel
theorem dX0_table_36 : decode cX0_table 36 = .ok (.ldc 61, 2) := by decide +kernel
theorem dX0_table_38 : decode cX0_table 38 = .ok (.invokespecial 63, 3) := by decide +kernel
theorem dX0_table_41 : decode cX0_table 41 = .ok (.athrow, 1) := by decide +kernel
theorem dX0_table_42 : decode cX0_table 42 = .ok (.iload_n 1, 1) := by decide +kernel
theorem dX0_table_43 : decode cX0_table 43 = .ok (.iload_n 2, 1) := by decide +kernel
theorem dX0_table_44 : decode cX0_table 44 = .ok (.iload_n 3, 1) := by decide +kernel
theorem dX0_table_45 : decode cX0_table 45 = .ok (.invokestatic 66, 3) := by decide +kernel
theorem dX0_table_48 : decode cX0_table 48 = .ok (.istore 5, 2) := by decide +kernel
theorem dX0_table_50 : decode cX0_table 50 = .ok (.aload_n 0, 1) := by decide +kernel
theorem dX0_table_51 : decode cX0_table 51 = .ok (.getfield 35, 3) := by decide +kernel
theorem dX0_table_54 : decode cX0_table 54 = .ok (.iload 5, 2) := by decide +kernel
theorem dX0_table_56 : decode cX0_table 56 = .ok (.iaload, 1) := by decide +kernel
theorem dX0_table_57 : decode cX0_table 57 = .ok (.istore 6, 2) := by decide +kernel
theorem dX0_table_59 : decode cX0_table 59 = .ok (.aload_n 0, 1) := by decide +kernel
theorem dX0_table_60 : decode cX0_table 60 = .ok (.getfield 35, 3) := by decide +kernel
theorem dX0_table_63 : decode cX0_table 63 = .ok (.iload 5, 2) := by decide +kernel
theorem dX0_table_65 : decode cX0_table 65 = .ok (.iload 4, 2) := by decide +kernel
theorem dX0_table_67 : decode cX0_table 67 = .ok (.iastore, 1) := by decide +kernel
theorem dX0_table_68 : decode cX0_table 68 = .ok (.iload 6, 2) := by decide +kernel
theorem dX0_table_70 : decode cX0_table 70 = .ok (.ireturn, 1) := by decide +kernel
theorem dX0_policy_0 : decode cX0_policy 0 = .ok (.aload_n 0, 1) := by decide +kernel
theorem dX0_policy_1 : decode cX0_policy 1 = .ok (.iload_n 1, 1) := by decide +kernel
theorem dX0_policy_2 : decode cX0_policy 2 = .ok (.iload_n 2, 1) := by decide +kernel
theorem dX0_policy_3 : decode cX0_policy 3 = .ok (.iload_n 3, 1) := by decide +kernel
theorem dX0_policy_4 : decode cX0_policy 4 = .ok (.iload 4, 2) := by decide +kernel
theorem dX0_policy_6 : decode cX0_policy 6 = .ok (.invokevirtual 70, 3) := by decide +kernel
theorem dX0_policy_9 : decode cX0_policy 9 = .ok (.ifCond .ne 13, 3) := by decide +kernel
theorem dX0_policy_12 : decode cX0_policy 12 = .ok (.new 59, 3) := by decide +kernel
theorem dX0_policy_15 : decode cX0_policy 15 = .ok (.dup, 1) := by decide +kernel
theorem dX0_policy_16 : decode cX0_policy 16 = .ok (.ldc 74, 2) := by decide +kernel
theorem dX0_policy_18 : decode cX0_policy 18 = .ok (.invokespecial 63, 3) := by decide +kernel
theorem dX0_policy_21 : decode cX0_policy 21 = .ok (.athrow, 1) := by decide +kernel
theorem dX0_policy_22 : decode cX0_policy 22 = .ok (.aload_n 0, 1) := by decide +kernel
theorem dX0_policy_23 : decode cX0_policy 23 = .ok (.iload_n 1, 1) := by decide +kernel
theorem dX0_policy_24 : decode cX0_policy 24 = .ok (.iload_n 2, 1) := by decide +kernel
theorem dX0_policy_25 : decode cX0_policy 25 = .ok (.iload_n 3, 1) := by decide +kernel
theorem dX0_policy_26 : decode cX0_policy 26 = .ok (.invokevirtual 76, 3) := by decide +kernel
theorem dX0_policy_29 : decode cX0_policy 29 = .ok (.ifCond .eq 13, 3) := by decide +kernel
theorem dX0_policy_32 : decode cX0_policy 32 = .ok (.new 80, 3) := by decide +kernel
theorem dX0_policy_35 : decode cX0_policy 35 = .ok (.dup, 1) := by decide +kernel
theorem dX0_policy_36 : decode cX0_policy 36 = .ok (.ldc 82, 2) := by decide +kernel
theorem dX0_policy_38 : decode cX0_policy 38 = .ok (.invokespecial 84, 3) := by decide +kernel
theorem dX0_policy_41 : decode cX0_policy 41 = .ok (.athrow, 1) := by decide +kernel
theorem dX0_policy_42 : decode cX0_policy 42 = .ok (.aload_n 0, 1) := by decide +kernel
theorem dX0_policy_43 : decode cX0_policy 43 = .ok (.iload_n 1, 1) := by decide +kernel
theorem dX0_policy_44 : decode cX0_policy 44 = .ok (.iload_n 2, 1) := by decide +kernel
theorem dX0_policy_45 : decode cX0_policy 45 = .ok (.iload_n 3, 1) := by decide +kernel
theorem dX0_policy_46 : decode cX0_policy 46 = .ok (.invokevirtual 85, 3) := by decide +kernel
theorem dX0_policy_49 : decode cX0_policy 49 = .ok (.istore 5, 2) := by decide +kernel
theorem dX0_policy_51 : decode cX0_policy 51 = .ok (.iload 5, 2) := by decide +kernel
theorem dX0_policy_53 : decode cX0_policy 53 = .ok (.bipush 7, 2) := by decide +kernel
theorem dX0_policy_55 : decode cX0_policy 55 = .ok (.if_icmp .le 13, 3) := by decide +kernel
theorem dX0_policy_58 : decode cX0_policy 58 = .ok (.new 88, 3) := by decide +kernel
theorem dX0_policy_61 : decode cX0_policy 61 = .ok (.dup, 1) := by decide +kernel
theorem dX0_policy_62 : decode cX0_policy 62 = .ok (.ldc 90, 2) := by decide +kernel
theorem dX0_policy_64 : decode cX0_policy 64 = .ok (.invokespecial 92, 3) := by decide +kernel
theorem dX0_policy_67 : decode cX0_policy 67 = .ok (.athrow, 1) := by decide +kernel
theorem dX0_policy_68 : decode cX0_policy 68 = .ok (.aload_n 0, 1) := by decide +kernel
theorem dX0_policy_69 : decode cX0_policy 69 = .ok (.getfield 93, 3) := by decide +kernel
theorem dX0_policy_72 : decode cX0_policy 72 = .ok (.bipush 40, 2) := by decide +kernel
theorem dX0_policy_74 : decode cX0_policy 74 = .ok (.if_icmp .lt 13, 3) := by decide +kernel
theorem dX0_policy_77 : decode cX0_policy 77 = .ok (.new 96, 3) := by decide +kernel
theorem dX0_policy_80 : decode cX0_policy 80 = .ok (.dup, 1) := by decide +kernel
theorem dX0_policy_81 : decode cX0_policy 81 = .ok (.ldc 98, 2) := by decide +kernel
theorem dX0_policy_83 : decode cX0_policy 83 = .ok (.invokespecial 100, 3) := by decide +kernel
theorem dX0_policy_86 : decode cX0_policy 86 = .ok (.athrow, 1) := by decide +kernel
theorem dX0_policy_87 : decode cX0_policy 87 = .ok (.aload_n 0, 1) := by decide +kernel
theorem dX0_policy_88 : decode cX0_policy 88 = .ok (.iload_n 1, 1) := by decide +kernel
theorem dX0_policy_89 : decode cX0_policy 89 = .ok (.iload_n 2, 1) := by decide +kernel
theorem dX0_policy_90 : decode cX0_policy 90 = .ok (.iload_n 3, 1) := by decide +kernel
theorem dX0_policy_91 : decode cX0_policy 91 = .ok (.iload 4, 2) := by decide +kernel
theorem dX0_policy_93 : decode cX0_policy 93 = .ok (.iload 5, 2) := by decide +kernel
theorem dX0_policy_95 : decode cX0_policy 95 = .ok (.invokevirtual 101, 3) := by decide +kernel
theorem dX0_policy_98 : decode cX0_policy 98 = .ok (.ireturn, 1) := by decide +kernel
theorem dX0_install_0 : decode cX0_install 0 = .ok (.aload_n 0, 1) := by decide +kernel
theorem dX0_install_1 : decode cX0_install 1 = .ok (.iload_n 1, 1) := by decide +kernel
theorem dX0_install_2 : decode cX0_install 2 = .ok (.invokevirtual 105, 3) := by decide +kernel
theorem dX0_install_5 : decode cX0_install 5 = .ok (.ifCond .ne 13, 3) := by decide +kernel
theorem dX0_install_8 : decode cX0_install 8 = .ok (.new 59, 3) := by decide +kernel
theorem dX0_install_11 : decode cX0_install 11 = .ok (.dup, 1) := by decide +kernel
theorem dX0_install_12 : decode cX0_install 12 = .ok (.ldc 108, 2) := by decide +kernel
theorem dX0_install_14 : decode cX0_install 14 = .ok (.invokespecial 63, 3) := by decide +kernel
theorem dX0_install_17 : decode cX0_install 17 = .ok (.athrow, 1) := by decide +kernel
theorem dX0_install_18 : decode cX0_install 18 = .ok (.aload_n 0, 1) := by decide +kernel
theorem dX0_install_19 : decode cX0_install 19 = .ok (.iload_n 1, 1) := by decide +kernel
theorem dX0_install_20 : decode cX0_install 20 = .ok (.putfield 44, 3) := by decide +kernel
theorem dX0_install_23 : decode cX0_install 23 = .ok (.aload_n 0, 1) := by decide +kernel
theorem dX0_install_24 : decode cX0_install 24 = .ok (.iconst 0, 1) := by decide +kernel
theorem dX0_install_25 : decode cX0_install 25 = .ok (.putfield 110, 3) := by decide +kernel
theorem dX0_install_28 : decode cX0_install 28 = .ok (.iconst 0, 1) := by decide +kernel
theorem dX0_install_29 : decode cX0_install 29 = .ok (.istore_n 2, 1) := by decide +kernel
theorem dX0_install_30 : decode cX0_install 30 = .ok (.iload_n 2, 1) := by decide +kernel
theorem dX0_install_31 : decode cX0_install 31 = .ok (.bipush 40, 2) := by decide +kernel
theorem dX0_install_33 : decode cX0_install 33 = .ok (.if_icmp .ge 16, 3) := by decide +kernel
theorem dX0_install_36 : decode cX0_install 36 = .ok (.aload_n 0, 1) := by decide +kernel
theorem dX0_install_37 : decode cX0_install 37 = .ok (.getfield 29, 3) := by decide +kernel
theorem dX0_install_40 : decode cX0_install 40 = .ok (.iload_n 2, 1) := by decide +kernel
theorem dX0_install_41 : decode cX0_install 41 = .ok (.iconst 0, 1) := by decide +kernel
theorem dX0_install_42 : decode cX0_install 42 = .ok (.iastore, 1) := by decide +kernel
theorem dX0_install_43 : decode cX0_install 43 = .ok (.iinc 2 1, 3) := by decide +kernel
theorem dX0_install_46 : decode cX0_install 46 = .ok (.goto (-16), 3) := by decide +kernel
theorem dX0_install_49 : decode cX0_install 49 = .ok (.iconst 0, 1) := by decide +kernel
theorem dX0_install_50 : decode cX0_install 50 = .ok (.ireturn, 1) := by decide +kernel
theorem dX0_act_0 : decode cX0_act 0 = .ok (.iload_n 1, 1) := by decide +kernel
theorem dX0_act_1 : decode cX0_act 1 = .ok (.invokestatic 56, 3) := by decide +kernel
theorem dX0_act_4 : decode cX0_act 4 = .ok (.ifCond .ne 13, 3) := by decide +kernel
theorem dX0_act_7 : decode cX0_act 7 = .ok (.new 59, 3) := by decide +kernel
theorem dX0_act_10 : decode cX0_act 10 = .ok (.dup, 1) := by decide +kernel
theorem dX0_act_11 : decode cX0_act 11 = .ok (.ldc 114, 2) := by decide +kernel
theorem dX0_act_13 : decode cX0_act 13 = .ok (.invokespecial 63, 3) := by decide +kernel
theorem dX0_act_16 : decode cX0_act 16 = .ok (.athrow, 1) := by decide +kernel
theorem dX0_act_17 : decode cX0_act 17 = .ok (.aload_n 0, 1) := by decide +kernel
theorem dX0_act_18 : decode cX0_act 18 = .ok (.getfield 110, 3) := by decide +kernel
theorem dX0_act_21 : decode cX0_act 21 = .ok (.ifCond .eq 7, 3) := by decide +kernel
theorem dX0_act_24 : decode cX0_act 24 = .ok (.iconst 2, 1) := by decide +kernel
theorem dX0_act_25 : decode cX0_act 25 = .ok (.goto 10, 3) := by decide +kernel
theorem dX0_act_28 : decode cX0_act 28 = .ok (.aload_n 0, 1) := by decide +kernel
theorem dX0_act_29 : decode cX0_act 29 = .ok (.iload_n 1, 1) := by decide +kernel
theorem dX0_act_30 : decode cX0_act 30 = .ok (.iload_n 2, 1) := by decide +kernel
theorem dX0_act_31 : decode cX0_act 31 = .ok (.iconst 1, 1) := by decide +kernel
theorem dX0_act_32 : decode cX0_act 32 = .ok (.invokevirtual 116, 3) := by decide +kernel
theorem dX0_act_35 : decode cX0_act 35 = .ok (.istore_n 3, 1) := by decide +kernel
theorem dX0_act_36 : decode cX0_act 36 = .ok (.aload_n 0, 1) := by decide +kernel
theorem dX0_act_37 : decode cX0_act 37 = .ok (.invokevirtual 119, 3) := by decide +kernel
theorem dX0_act_40 : decode cX0_act 40 = .ok (.iload_n 3, 1) := by decide +kernel
theorem dX0_act_41 : decode cX0_act 41 = .ok (.ifCond .ne 8, 3) := by decide +kernel
theorem dX0_act_44 : decode cX0_act 44 = .ok (.aload_n 0, 1) := by decide +kernel
theorem dX0_act_45 : decode cX0_act 45 = .ok (.getfield 122, 3) := by decide +kernel
theorem dX0_act_48 : decode cX0_act 48 = .ok (.ireturn, 1) := by decide +kernel
theorem dX0_act_49 : decode cX0_act 49 = .ok (.aload_n 0, 1) := by decide +kernel
theorem dX0_act_50 : decode cX0_act 50 = .ok (.dup, 1) := by decide +kernel
theorem dX0_act_51 : decode cX0_act 51 = .ok (.getfield 125, 3) := by decide +kernel
theorem dX0_act_54 : decode cX0_act 54 = .ok (.iconst 1, 1) := by decide +kernel
theorem dX0_act_55 : decode cX0_act 55 = .ok (.iadd, 1) := by decide +kernel
theorem dX0_act_56 : decode cX0_act 56 = .ok (.putfield 125, 3) := by decide +kernel
theorem dX0_act_59 : decode cX0_act 59 = .ok (.iload_n 3, 1) := by decide +kernel
theorem dX0_act_60 : decode cX0_act 60 = .ok (.iconst 2, 1) := by decide +kernel
theorem dX0_act_61 : decode cX0_act 61 = .ok (.if_icmp .ne 18, 3) := by decide +kernel
theorem dX0_act_64 : decode cX0_act 64 = .ok (.aload_n 0, 1) := by decide +kernel
theorem dX0_act_65 : decode cX0_act 65 = .ok (.iconst 1, 1) := by decide +kernel
theorem dX0_act_66 : decode cX0_act 66 = .ok (.putfield 110, 3) := by decide +kernel
theorem dX0_act_69 : decode cX0_act 69 = .ok (.new 88, 3) := by decide +kernel
theorem dX0_act_72 : decode cX0_act 72 = .ok (.dup, 1) := by decide +kernel
theorem dX0_act_73 : decode cX0_act 73 = .ok (.ldc 128, 2) := by decide +kernel
theorem dX0_act_75 : decode cX0_act 75 = .ok (.invokespecial 92, 3) := by decide +kernel
theorem dX0_act_78 : decode cX0_act 78 = .ok (.athrow, 1) := by decide +kernel
theorem dX0_act_79 : decode cX0_act 79 = .ok (.iload_n 3, 1) := by decide +kernel
theorem dX0_act_80 : decode cX0_act 80 = .ok (.iconst 1, 1) := by decide +kernel
theorem dX0_act_81 : decode cX0_act 81 = .ok (.if_icmp .ne 13, 3) := by decide +kernel
theorem dX0_act_84 : decode cX0_act 84 = .ok (.new 80, 3) := by decide +kernel
theorem dX0_act_87 : decode cX0_act 87 = .ok (.dup, 1) := by decide +kernel
theorem dX0_act_88 : decode cX0_act 88 = .ok (.ldc 129, 2) := by decide +kernel
theorem dX0_act_90 : decode cX0_act 90 = .ok (.invokespecial 84, 3) := by decide +kernel
theorem dX0_act_93 : decode cX0_act 93 = .ok (.athrow, 1) := by decide +kernel
theorem dX0_act_94 : decode cX0_act 94 = .ok (.new 96, 3) := by decide +kernel
theorem dX0_act_97 : decode cX0_act 97 = .ok (.dup, 1) := by decide +kernel
theorem dX0_act_98 : decode cX0_act 98 = .ok (.ldc 131, 2) := by decide +kernel
theorem dX0_act_100 : decode cX0_act 100 = .ok (.invokespecial 100, 3) := by decide +kernel
theorem dX0_act_103 : decode cX0_act 103 = .ok (.athrow, 1) := by decide +kernel
theorem dX0_ask_0 : decode cX0_ask 0 = .ok (.iload_n 1, 1) := by decide +kernel
theorem dX0_ask_1 : decode cX0_ask 1 = .ok (.invokestatic 56, 3) := by decide +kernel
theorem dX0_ask_4 : decode cX0_ask 4 = .ok (.ifCond .ne 13, 3) := by decide +kernel
theorem dX0_ask_7 : decode cX0_ask 7 = .ok (.new 59, 3) := by decide +kernel
theorem dX0_ask_10 : decode cX0_ask 10 = .ok (.dup, 1) := by decide +kernel
theorem dX0_ask_11 : decode cX0_ask 11 = .ok (.ldc 114, 2) := by decide +kernel
theorem dX0_ask_13 : decode cX0_ask 13 = .ok (.invokespecial 63, 3) := by decide +kernel
theorem dX0_ask_16 : decode cX0_ask 16 = .ok (.athrow, 1) := by decide +kernel
theorem dX0_ask_17 : decode cX0_ask 17 = .ok (.aload_n 0, 1) := by decide +kernel
theorem dX0_ask_18 : decode cX0_ask 18 = .ok (.iload_n 1, 1) := by decide +kernel
theorem dX0_ask_19 : decode cX0_ask 19 = .ok (.iload_n 2, 1) := by decide +kernel
theorem dX0_ask_20 : decode cX0_ask 20 = .ok (.invokevirtual 133, 3) := by decide +kernel
theorem dX0_ask_23 : decode cX0_ask 23 = .ok (.invokestatic 137, 3) := by decide +kernel
theorem dX0_ask_26 : decode cX0_ask 26 = .ok (.ireturn, 1) := by decide +kernel
theorem dX0_detail_0 : decode cX0_detail 0 = .ok (.iload_n 1, 1) := by decide +kernel
theorem dX0_detail_1 : decode cX0_detail 1 = .ok (.invokestatic 56, 3) := by decide +kernel
theorem dX0_detail_4 : decode cX0_detail 4 = .ok (.ifCond .eq 11, 3) := by decide +kernel
theorem dX0_detail_7 : decode cX0_detail 7 = .ok (.iload_n 3, 1) := by decide +kernel
theorem dX0_detail_8 : decode cX0_detail 8 = .ok (.iconst 3, 1) := by decide +kernel
theorem dX0_detail_9 : decode cX0_detail 9 = .ok (.invokestatic 52, 3) := by decide +kernel
theorem dX0_detail_12 : decode cX0_detail 12 = .ok (.ifCond .ne 13, 3) := by decide +kernel
theorem dX0_detail_15 : decode cX0_detail 15 = .ok (.new 59, 3) := by decide +kernel
theorem dX0_detail_18 : decode cX0_detail 18 = .ok (.dup, 1) := by decide +kernel
theorem dX0_detail_19 : decode cX0_detail 19 = .ok (.ldc 141, 2) := by decide +kernel
theorem dX0_detail_21 : decode cX0_detail 21 = .ok (.invokespecial 63, 3) := by decide +kernel
theorem dX0_detail_24 : decode cX0_detail 24 = .ok (.athrow, 1) := by decide +kernel
theorem dX0_detail_25 : decode cX0_detail 25 = .ok (.aload_n 0, 1) := by decide +kernel
theorem dX0_detail_26 : decode cX0_detail 26 = .ok (.iload_n 1, 1) := by decide +kernel
theorem dX0_detail_27 : decode cX0_detail 27 = .ok (.iload_n 2, 1) := by decide +kernel
theorem dX0_detail_28 : decode cX0_detail 28 = .ok (.invokevirtual 133, 3) := by decide +kernel
theorem dX0_detail_31 : decode cX0_detail 31 = .ok (.istore 4, 2) := by decide +kernel
theorem dX0_detail_33 : decode cX0_detail 33 = .ok (.iload_n 3, 1) := by decide +kernel
theorem dX0_detail_34 : decode cX0_detail 34 = .ok (.iconst 2, 1) := by decide +kernel
theorem dX0_detail_35 : decode cX0_detail 35 = .ok (.if_icmp .ne 7, 3) := by decide +kernel
theorem dX0_detail_38 : decode cX0_detail 38 = .ok (.iconst 3, 1) := by decide +kernel
theorem dX0_detail_39 : decode cX0_detail 39 = .ok (.goto 4, 3) := by decide +kernel
theorem dX0_detail_42 : decode cX0_detail 42 = .ok (.iconst 2, 1) := by decide +kernel
theorem dX0_detail_43 : decode cX0_detail 43 = .ok (.istore 5, 2) := by decide +kernel
theorem dX0_detail_45 : decode cX0_detail 45 = .ok (.iload 4, 2) := by decide +kernel
theorem dX0_detail_47 : decode cX0_detail 47 = .ok (.invokestatic 137, 3) := by decide +kernel
theorem dX0_detail_50 : decode cX0_detail 50 = .ok (.iload 5, 2) := by decide +kernel
theorem dX0_detail_52 : decode cX0_detail 52 = .ok (.if_icmp .eq 13, 3) := by decide +kernel
theorem dX0_detail_55 : decode cX0_detail 55 = .ok (.new 80, 3) := by decide +kernel
theorem dX0_detail_58 : decode cX0_detail 58 = .ok (.dup, 1) := by decide +kernel
theorem dX0_detail_59 : decode cX0_detail 59 = .ok (.ldc 143, 2) := by decide +kernel
theorem dX0_detail_61 : decode cX0_detail 61 = .ok (.invokespecial 84, 3) := by decide +kernel
theorem dX0_detail_64 : decode cX0_detail 64 = .ok (.athrow, 1) := by decide +kernel
theorem dX0_detail_65 : decode cX0_detail 65 = .ok (.iload 4, 2) := by decide +kernel
theorem dX0_detail_67 : decode cX0_detail 67 = .ok (.invokestatic 145, 3) := by decide +kernel
theorem dX0_detail_70 : decode cX0_detail 70 = .ok (.istore 6, 2) := by decide +kernel
theorem dX0_detail_72 : decode cX0_detail 72 = .ok (.iload_n 3, 1) := by decide +kernel
theorem dX0_detail_73 : decode cX0_detail 73 = .ok (.iconst 1, 1) := by decide +kernel
theorem dX0_detail_74 : decode cX0_detail 74 = .ok (.if_icmp .ne 13, 3) := by decide +kernel
theorem dX0_detail_77 : decode cX0_detail 77 = .ok (.aload_n 0, 1) := by decide +kernel
theorem dX0_detail_78 : decode cX0_detail 78 = .ok (.getfield 19, 3) := by decide +kernel
theorem dX0_detail_81 : decode cX0_detail 81 = .ok (.iload 6, 2) := by decide +kernel
theorem dX0_detail_83 : decode cX0_detail 83 = .ok (.iaload, 1) := by decide +kernel
theorem dX0_detail_84 : decode cX0_detail 84 = .ok (.goto 10, 3) := by decide +kernel
theorem dX0_detail_87 : decode cX0_detail 87 = .ok (.aload_n 0, 1) := by decide +kernel
theorem dX0_detail_88 : decode cX0_detail 88 = .ok (.getfield 16, 3) := by decide +kernel
theorem dX0_detail_91 : decode cX0_detail 91 = .ok (.iload 6, 2) := by decide +kernel
theorem dX0_detail_93 : decode cX0_detail 93 = .ok (.iaload, 1) := by decide +kernel
theorem dX0_detail_94 : decode cX0_detail 94 = .ok (.ireturn, 1) := by decide +kernel
theorem dX0_total_0 : decode cX0_total 0 = .ok (.iload_n 1, 1) := by decide +kernel
theorem dX0_total_1 : decode cX0_total 1 = .ok (.invokestatic 56, 3) := by decide +kernel
theorem dX0_total_4 : decode cX0_total 4 = .ok (.ifCond .ne 13, 3) := by decide +kernel
theorem dX0_total_7 : decode cX0_total 7 = .ok (.new 59, 3) := by decide +kernel
theorem dX0_total_10 : decode cX0_total 10 = .ok (.dup, 1) := by decide +kernel
theorem dX0_total_11 : decode cX0_total 11 = .ok (.ldc 114, 2) := by decide +kernel
theorem dX0_total_13 : decode cX0_total 13 = .ok (.invokespecial 63, 3) := by decide +kernel
theorem dX0_total_16 : decode cX0_total 16 = .ok (.athrow, 1) := by decide +kernel
theorem dX0_total_17 : decode cX0_total 17 = .ok (.aload_n 0, 1) := by decide +kernel
theorem dX0_total_18 : decode cX0_total 18 = .ok (.getfield 38, 3) := by decide +kernel
theorem dX0_total_21 : decode cX0_total 21 = .ok (.iload_n 1, 1) := by decide +kernel
theorem dX0_total_22 : decode cX0_total 22 = .ok (.iaload, 1) := by decide +kernel
theorem dX0_total_23 : decode cX0_total 23 = .ok (.ireturn, 1) := by decide +kernel
theorem dX0_state_0 : decode cX0_state 0 = .ok (.aload_n 0, 1) := by decide +kernel
theorem dX0_state_1 : decode cX0_state 1 = .ok (.iload_n 1, 1) := by decide +kernel
theorem dX0_state_2 : decode cX0_state 2 = .ok (.invokevirtual 105, 3) := by decide +kernel
theorem dX0_state_5 : decode cX0_state 5 = .ok (.ifCond .ne 5, 3) := by decide +kernel
theorem dX0_state_8 : decode cX0_state 8 = .ok (.iconst (-1), 1) := by decide +kernel
theorem dX0_state_9 : decode cX0_state 9 = .ok (.ireturn, 1) := by decide +kernel
theorem dX0_state_10 : decode cX0_state 10 = .ok (.aload_n 0, 1) := by decide +kernel
theorem dX0_state_11 : decode cX0_state 11 = .ok (.getfield 9, 3) := by decide +kernel
theorem dX0_state_14 : decode cX0_state 14 = .ok (.iload_n 1, 1) := by decide +kernel
theorem dX0_state_15 : decode cX0_state 15 = .ok (.iaload, 1) := by decide +kernel
theorem dX0_state_16 : decode cX0_state 16 = .ok (.iconst 3, 1) := by decide +kernel
theorem dX0_state_17 : decode cX0_state 17 = .ok (.if_icmp .eq 14, 3) := by decide +kernel
theorem dX0_state_20 : decode cX0_state 20 = .ok (.aload_n 0, 1) := by decide +kernel
theorem dX0_state_21 : decode cX0_state 21 = .ok (.getfield 9, 3) := by decide +kernel
theorem dX0_state_24 : decode cX0_state 24 = .ok (.iload_n 1, 1) := by decide +kernel
theorem dX0_state_25 : decode cX0_state 25 = .ok (.iaload, 1) := by decide +kernel
theorem dX0_state_26 : decode cX0_state 26 = .ok (.bipush 6, 2) := by decide +kernel
theorem dX0_state_28 : decode cX0_state 28 = .ok (.if_icmp .ne 7, 3) := by decide +kernel
theorem dX0_state_31 : decode cX0_state 31 = .ok (.iconst 1, 1) := by decide +kernel
theorem dX0_state_32 : decode cX0_state 32 = .ok (.goto 4, 3) := by decide +kernel
theorem dX0_state_35 : decode cX0_state 35 = .ok (.iconst 0, 1) := by decide +kernel
theorem dX0_state_36 : decode cX0_state 36 = .ok (.istore_n 2, 1) := by decide +kernel
theorem dX0_state_37 : decode cX0_state 37 = .ok (.iload_n 2, 1) := by decide +kernel
theorem dX0_state_38 : decode cX0_state 38 = .ok (.ifCond .eq 12, 3) := by decide +kernel
theorem dX0_state_41 : decode cX0_state 41 = .ok (.aload_n 0, 1) := by decide +kernel
theorem dX0_state_42 : decode cX0_state 42 = .ok (.getfield 29, 3) := by decide +kernel
theorem dX0_state_45 : decode cX0_state 45 = .ok (.iload_n 1, 1) := by decide +kernel
theorem dX0_state_46 : decode cX0_state 46 = .ok (.iaload, 1) := by decide +kernel
theorem dX0_state_47 : decode cX0_state 47 = .ok (.goto 4, 3) := by decide +kernel
theorem dX0_state_50 : decode cX0_state 50 = .ok (.iconst (-1), 1) := by decide +kernel
theorem dX0_state_51 : decode cX0_state 51 = .ok (.ireturn, 1) := by decide +kernel
theorem dX0_noted_0 : decode cX0_noted 0 = .ok (.iload_n 1, 1) := by decide +kernel
theorem dX0_noted_1 : decode cX0_noted 1 = .ok (.bipush 16, 2) := by decide +kernel
theorem dX0_noted_3 : decode cX0_noted 3 = .ok (.invokestatic 52, 3) := by decide +kernel
theorem dX0_noted_6 : decode cX0_noted 6 = .ok (.ifCond .eq 11, 3) := by decide +kernel
theorem dX0_noted_9 : decode cX0_noted 9 = .ok (.iload_n 1, 1) := by decide +kernel
theorem dX0_noted_10 : decode cX0_noted 10 = .ok (.aload_n 0, 1) := by decide +kernel
theorem dX0_noted_11 : decode cX0_noted 11 = .ok (.getfield 148, 3) := by decide +kernel
theorem dX0_noted_14 : decode cX0_noted 14 = .ok (.if_icmp .lt 5, 3) := by decide +kernel
theorem dX0_noted_17 : decode cX0_noted 17 = .ok (.iconst (-1), 1) := by decide +kernel
theorem dX0_noted_18 : decode cX0_noted 18 = .ok (.ireturn, 1) := by decide +kernel
theorem dX0_noted_19 : decode cX0_noted 19 = .ok (.aload_n 0, 1) := by decide +kernel
theorem dX0_noted_20 : decode cX0_noted 20 = .ok (.getfield 41, 3) := by decide +kernel
theorem dX0_noted_23 : decode cX0_noted 23 = .ok (.aload_n 0, 1) := by decide +kernel
theorem dX0_noted_24 : decode cX0_noted 24 = .ok (.getfield 148, 3) := by decide +kernel
theorem dX0_noted_27 : decode cX0_noted 27 = .ok (.iconst 1, 1) := by decide +kernel
theorem dX0_noted_28 : decode cX0_noted 28 = .ok (.isub, 1) := by decide +kernel
theorem dX0_noted_29 : decode cX0_noted 29 = .ok (.iload_n 1, 1) := by decide +kernel
theorem dX0_noted_30 : decode cX0_noted 30 = .ok (.isub, 1) := by decide +kernel
theorem dX0_noted_31 : decode cX0_noted 31 = .ok (.bipush 16, 2) := by decide +kernel
theorem dX0_noted_33 : decode cX0_noted 33 = .ok (.invokestatic 151, 3) := by decide +kernel
theorem dX0_noted_36 : decode cX0_noted 36 = .ok (.iaload, 1) := by decide +kernel
theorem dX0_noted_37 : decode cX0_noted 37 = .ok (.ireturn, 1) := by decide +kernel
theorem dX0_count_0 : decode cX0_count 0 = .ok (.iload_n 1, 1) := by decide +kernel
theorem dX0_count_1 : decode cX0_count 1 = .ok (.tableswitch 86 0 6 #[43, 48, 53, 58, 63, 68, 81], 43) := by decide +kernel
theorem dX0_count_44 : decode cX0_count 44 = .ok (.aload_n 0, 1) := by decide +kernel
theorem dX0_count_45 : decode cX0_count 45 = .ok (.getfield 93, 3) := by decide +kernel
theorem dX0_count_48 : decode cX0_count 48 = .ok (.ireturn, 1) := by decide +kernel
theorem dX0_count_49 : decode cX0_count 49 = .ok (.aload_n 0, 1) := by decide +kernel
theorem dX0_count_50 : decode cX0_count 50 = .ok (.getfield 148, 3) := by decide +kernel
theorem dX0_count_53 : decode cX0_count 53 = .ok (.ireturn, 1) := by decide +kernel
theorem dX0_count_54 : decode cX0_count 54 = .ok (.aload_n 0, 1) := by decide +kernel
theorem dX0_count_55 : decode cX0_count 55 = .ok (.getfield 156, 3) := by decide +kernel
theorem dX0_count_58 : decode cX0_count 58 = .ok (.ireturn, 1) := by decide +kernel
theorem dX0_count_59 : decode cX0_count 59 = .ok (.aload_n 0, 1) := by decide +kernel
theorem dX0_count_60 : decode cX0_count 60 = .ok (.getfield 159, 3) := by decide +kernel
theorem dX0_count_63 : decode cX0_count 63 = .ok (.ireturn, 1) := by decide +kernel
theorem dX0_count_64 : decode cX0_count 64 = .ok (.aload_n 0, 1) := by decide +kernel
theorem dX0_count_65 : decode cX0_count 65 = .ok (.getfield 125, 3) := by decide +kernel
theorem dX0_count_68 : decode cX0_count 68 = .ok (.ireturn, 1) := by decide +kernel
theorem dX0_count_69 : decode cX0_count 69 = .ok (.aload_n 0, 1) := by decide +kernel
theorem dX0_count_70 : decode cX0_count 70 = .ok (.getfield 110, 3) := by decide +kernel
theorem dX0_count_73 : decode cX0_count 73 = .ok (.ifCond .eq 7, 3) := by decide +kernel
theorem dX0_count_76 : decode cX0_count 76 = .ok (.iconst 1, 1) := by decide +kernel
theorem dX0_count_77 : decode cX0_count 77 = .ok (.goto 4, 3) := by decide +kernel
theorem dX0_count_80 : decode cX0_count 80 = .ok (.iconst 0, 1) := by decide +kernel
theorem dX0_count_81 : decode cX0_count 81 = .ok (.ireturn, 1) := by decide +kernel
theorem dX0_count_82 : decode cX0_count 82 = .ok (.aload_n 0, 1) := by decide +kernel
theorem dX0_count_83 : decode cX0_count 83 = .ok (.getfield 44, 3) := by decide +kernel
theorem dX0_count_86 : decode cX0_count 86 = .ok (.ireturn, 1) := by decide +kernel
theorem dX0_count_87 : decode cX0_count 87 = .ok (.iconst (-1), 1) := by decide +kernel
theorem dX0_count_88 : decode cX0_count 88 = .ok (.ireturn, 1) := by decide +kernel
theorem dX0_isBelow_0 : decode cX0_isBelow 0 = .ok (.iconst 0, 1) := by decide +kernel
theorem dX0_isBelow_1 : decode cX0_isBelow 1 = .ok (.iload_n 0, 1) := by decide +kernel
theorem dX0_isBelow_2 : decode cX0_isBelow 2 = .ok (.if_icmp .gt 12, 3) := by decide +kernel
theorem dX0_isBelow_5 : decode cX0_isBelow 5 = .ok (.iload_n 0, 1) := by decide +kernel
theorem dX0_isBelow_6 : decode cX0_isBelow 6 = .ok (.iload_n 1, 1) := by decide +kernel
theorem dX0_isBelow_7 : decode cX0_isBelow 7 = .ok (.if_icmp .ge 7, 3) := by decide +kernel
theorem dX0_isBelow_10 : decode cX0_isBelow 10 = .ok (.iconst 1, 1) := by decide +kernel
theorem dX0_isBelow_11 : decode cX0_isBelow 11 = .ok (.goto 4, 3) := by decide +kernel
theorem dX0_isBelow_14 : decode cX0_isBelow 14 = .ok (.iconst 0, 1) := by decide +kernel
theorem dX0_isBelow_15 : decode cX0_isBelow 15 = .ok (.ireturn, 1) := by decide +kernel
theorem dX0_isSort_0 : decode cX0_isSort 0 = .ok (.iload_n 0, 1) := by decide +kernel
theorem dX0_isSort_1 : decode cX0_isSort 1 = .ok (.bipush 8, 2) := by decide +kernel
theorem dX0_isSort_3 : decode cX0_isSort 3 = .ok (.invokestatic 52, 3) := by decide +kernel
theorem dX0_isSort_6 : decode cX0_isSort 6 = .ok (.ireturn, 1) := by decide +kernel
theorem dX0_isSet_0 : decode cX0_isSet 0 = .ok (.iload_n 0, 1) := by decide +kernel
theorem dX0_isSet_1 : decode cX0_isSet 1 = .ok (.sipush 256, 3) := by decide +kernel
theorem dX0_isSet_4 : decode cX0_isSet 4 = .ok (.invokestatic 52, 3) := by decide +kernel
theorem dX0_isSet_7 : decode cX0_isSet 7 = .ok (.ireturn, 1) := by decide +kernel
theorem dX0_isTable_0 : decode cX0_isTable 0 = .ok (.iload_n 0, 1) := by decide +kernel
theorem dX0_isTable_1 : decode cX0_isTable 1 = .ok (.iconst 3, 1) := by decide +kernel
theorem dX0_isTable_2 : decode cX0_isTable 2 = .ok (.invokestatic 52, 3) := by decide +kernel
theorem dX0_isTable_5 : decode cX0_isTable 5 = .ok (.ireturn, 1) := by decide +kernel
theorem dX0_isPolicy_0 : decode cX0_isPolicy 0 = .ok (.iload_n 1, 1) := by decide +kernel
theorem dX0_isPolicy_1 : decode cX0_isPolicy 1 = .ok (.aload_n 0, 1) := by decide +kernel
theorem dX0_isPolicy_2 : decode cX0_isPolicy 2 = .ok (.getfield 93, 3) := by decide +kernel
theorem dX0_isPolicy_5 : decode cX0_isPolicy 5 = .ok (.invokestatic 52, 3) := by decide +kernel
theorem dX0_isPolicy_8 : decode cX0_isPolicy 8 = .ok (.ireturn, 1) := by decide +kernel
theorem dX0_inSet_0 : decode cX0_inSet 0 = .ok (.iload_n 0, 1) := by decide +kernel
theorem dX0_inSet_1 : decode cX0_inSet 1 = .ok (.iload_n 1, 1) := by decide +kernel
theorem dX0_inSet_2 : decode cX0_inSet 2 = .ok (.ishr, 1) := by decide +kernel
theorem dX0_inSet_3 : decode cX0_inSet 3 = .ok (.iconst 1, 1) := by decide +kernel
theorem dX0_inSet_4 : decode cX0_inSet 4 = .ok (.iand, 1) := by decide +kernel
theorem dX0_inSet_5 : decode cX0_inSet 5 = .ok (.iconst 1, 1) := by decide +kernel
theorem dX0_inSet_6 : decode cX0_inSet 6 = .ok (.if_icmp .ne 7, 3) := by decide +kernel
theorem dX0_inSet_9 : decode cX0_inSet 9 = .ok (.iconst 1, 1) := by decide +kernel
theorem dX0_inSet_10 : decode cX0_inSet 10 = .ok (.goto 4, 3) := by decide +kernel
theorem dX0_inSet_13 : decode cX0_inSet 13 = .ok (.iconst 0, 1) := by decide +kernel
theorem dX0_inSet_14 : decode cX0_inSet 14 = .ok (.ireturn, 1) := by decide +kernel
theorem dX0_entryPlace_0 : decode cX0_entryPlace 0 = .ok (.iload_n 0, 1) := by decide +kernel
theorem dX0_entryPlace_1 : decode cX0_entryPlace 1 = .ok (.iconst 4, 1) := by decide +kernel
theorem dX0_entryPlace_2 : decode cX0_entryPlace 2 = .ok (.imul, 1) := by decide +kernel
theorem dX0_entryPlace_3 : decode cX0_entryPlace 3 = .ok (.iload_n 1, 1) := by decide +kernel
theorem dX0_entryPlace_4 : decode cX0_entryPlace 4 = .ok (.iadd, 1) := by decide +kernel
theorem dX0_entryPlace_5 : decode cX0_entryPlace 5 = .ok (.bipush 8, 2) := by decide +kernel
theorem dX0_entryPlace_7 : decode cX0_entryPlace 7 = .ok (.imul, 1) := by decide +kernel
theorem dX0_entryPlace_8 : decode cX0_entryPlace 8 = .ok (.iload_n 2, 1) := by decide +kernel
theorem dX0_entryPlace_9 : decode cX0_entryPlace 9 = .ok (.iadd, 1) := by decide +kernel
theorem dX0_entryPlace_10 : decode cX0_entryPlace 10 = .ok (.ireturn, 1) := by decide +kernel
theorem dX0_isPair_0 : decode cX0_isPair 0 = .ok (.iload_n 0, 1) := by decide +kernel
theorem dX0_isPair_1 : decode cX0_isPair 1 = .ok (.bipush 8, 2) := by decide +kernel
theorem dX0_isPair_3 : decode cX0_isPair 3 = .ok (.if_icmp .eq 21, 3) := by decide +kernel
theorem dX0_isPair_6 : decode cX0_isPair 6 = .ok (.iload_n 0, 1) := by decide +kernel
theorem dX0_isPair_7 : decode cX0_isPair 7 = .ok (.bipush 9, 2) := by decide +kernel
theorem dX0_isPair_9 : decode cX0_isPair 9 = .ok (.if_icmp .eq 15, 3) := by decide +kernel
theorem dX0_isPair_12 : decode cX0_isPair 12 = .ok (.iload_n 0, 1) := by decide +kernel
theorem dX0_isPair_13 : decode cX0_isPair 13 = .ok (.bipush 10, 2) := by decide +kernel
theorem dX0_isPair_15 : decode cX0_isPair 15 = .ok (.if_icmp .eq 9, 3) := by decide +kernel
theorem dX0_isPair_18 : decode cX0_isPair 18 = .ok (.iload_n 0, 1) := by decide +kernel
theorem dX0_isPair_19 : decode cX0_isPair 19 = .ok (.bipush 11, 2) := by decide +kernel
theorem dX0_isPair_21 : decode cX0_isPair 21 = .ok (.if_icmp .ne 7, 3) := by decide +kernel
theorem dX0_isPair_24 : decode cX0_isPair 24 = .ok (.iconst 1, 1) := by decide +kernel
theorem dX0_isPair_25 : decode cX0_isPair 25 = .ok (.goto 4, 3) := by decide +kernel
theorem dX0_isPair_28 : decode cX0_isPair 28 = .ok (.iconst 0, 1) := by decide +kernel
theorem dX0_isPair_29 : decode cX0_isPair 29 = .ok (.ireturn, 1) := by decide +kernel
theorem dX0_hasPolicyA_0 : decode cX0_hasPolicyA 0 = .ok (.iload_n 0, 1) := by decide +kernel
theorem dX0_hasPolicyA_1 : decode cX0_hasPolicyA 1 = .ok (.invokestatic 162, 3) := by decide +kernel
theorem dX0_hasPolicyA_4 : decode cX0_hasPolicyA 4 = .ok (.ifCond .ne 15, 3) := by decide +kernel
theorem dX0_hasPolicyA_7 : decode cX0_hasPolicyA 7 = .ok (.iload_n 0, 1) := by decide +kernel
theorem dX0_hasPolicyA_8 : decode cX0_hasPolicyA 8 = .ok (.bipush 13, 2) := by decide +kernel
theorem dX0_hasPolicyA_10 : decode cX0_hasPolicyA 10 = .ok (.if_icmp .eq 9, 3) := by decide +kernel
theorem dX0_hasPolicyA_13 : decode cX0_hasPolicyA 13 = .ok (.iload_n 0, 1) := by decide +kernel
theorem dX0_hasPolicyA_14 : decode cX0_hasPolicyA 14 = .ok (.bipush 14, 2) := by decide +kernel
theorem dX0_hasPolicyA_16 : decode cX0_hasPolicyA 16 = .ok (.if_icmp .ne 7, 3) := by decide +kernel
theorem dX0_hasPolicyA_19 : decode cX0_hasPolicyA 19 = .ok (.iconst 1, 1) := by decide +kernel
theorem dX0_hasPolicyA_20 : decode cX0_hasPolicyA 20 = .ok (.goto 4, 3) := by decide +kernel
theorem dX0_hasPolicyA_23 : decode cX0_hasPolicyA 23 = .ok (.iconst 0, 1) := by decide +kernel
theorem dX0_hasPolicyA_24 : decode cX0_hasPolicyA 24 = .ok (.ireturn, 1) := by decide +kernel
theorem dX0_hasPolicyB_0 : decode cX0_hasPolicyB 0 = .ok (.iload_n 0, 1) := by decide +kernel
theorem dX0_hasPolicyB_1 : decode cX0_hasPolicyB 1 = .ok (.invokestatic 162, 3) := by decide +kernel
theorem dX0_hasPolicyB_4 : decode cX0_hasPolicyB 4 = .ok (.ifCond .ne 9, 3) := by decide +kernel
theorem dX0_hasPolicyB_7 : decode cX0_hasPolicyB 7 = .ok (.iload_n 0, 1) := by decide +kernel
theorem dX0_hasPolicyB_8 : decode cX0_hasPolicyB 8 = .ok (.bipush 12, 2) := by decide +kernel
theorem dX0_hasPolicyB_10 : decode cX0_hasPolicyB 10 = .ok (.if_icmp .ne 7, 3) := by decide +kernel
theorem dX0_hasPolicyB_13 : decode cX0_hasPolicyB 13 = .ok (.iconst 1, 1) := by decide +kernel
theorem dX0_hasPolicyB_14 : decode cX0_hasPolicyB 14 = .ok (.goto 4, 3) := by decide +kernel
theorem dX0_hasPolicyB_17 : decode cX0_hasPolicyB 17 = .ok (.iconst 0, 1) := by decide +kernel
theorem dX0_hasPolicyB_18 : decode cX0_hasPolicyB 18 = .ok (.ireturn, 1) := by decide +kernel
theorem dX0_isAsSaid_0 : decode cX0_isAsSaid 0 = .ok (.iload_n 1, 1) := by decide +kernel
theorem dX0_isAsSaid_1 : decode cX0_isAsSaid 1 = .ok (.tableswitch 210 0 14 #[75, 75, 75, 80, 75, 102, 122, 75, 127, 127, 127, 127, 149, 170, 176], 75) := by decide +kernel
theorem dX0_isAsSaid_76 : decode cX0_isAsSaid 76 = .ok (.iload_n 2, 1) := by decide +kernel
theorem dX0_isAsSaid_77 : decode cX0_isAsSaid 77 = .ok (.invokestatic 165, 3) := by decide +kernel
theorem dX0_isAsSaid_80 : decode cX0_isAsSaid 80 = .ok (.ireturn, 1) := by decide +kernel
theorem dX0_isAsSaid_81 : decode cX0_isAsSaid 81 = .ok (.iload_n 2, 1) := by decide +kernel
theorem dX0_isAsSaid_82 : decode cX0_isAsSaid 82 = .ok (.invokestatic 165, 3) := by decide +kernel
theorem dX0_isAsSaid_85 : decode cX0_isAsSaid 85 = .ok (.ifCond .eq 16, 3) := by decide +kernel
theorem dX0_isAsSaid_88 : decode cX0_isAsSaid 88 = .ok (.iload_n 3, 1) := by decide +kernel
theorem dX0_isAsSaid_89 : decode cX0_isAsSaid 89 = .ok (.bipush 100, 2) := by decide +kernel
theorem dX0_isAsSaid_91 : decode cX0_isAsSaid 91 = .ok (.invokestatic 52, 3) := by decide +kernel
theorem dX0_isAsSaid_94 : decode cX0_isAsSaid 94 = .ok (.ifCond .eq 7, 3) := by decide +kernel
theorem dX0_isAsSaid_97 : decode cX0_isAsSaid 97 = .ok (.iconst 1, 1) := by decide +kernel
theorem dX0_isAsSaid_98 : decode cX0_isAsSaid 98 = .ok (.goto 4, 3) := by decide +kernel
theorem dX0_isAsSaid_101 : decode cX0_isAsSaid 101 = .ok (.iconst 0, 1) := by decide +kernel
theorem dX0_isAsSaid_102 : decode cX0_isAsSaid 102 = .ok (.ireturn, 1) := by decide +kernel
theorem dX0_isAsSaid_103 : decode cX0_isAsSaid 103 = .ok (.iload_n 2, 1) := by decide +kernel
theorem dX0_isAsSaid_104 : decode cX0_isAsSaid 104 = .ok (.invokestatic 165, 3) := by decide +kernel
theorem dX0_isAsSaid_107 : decode cX0_isAsSaid 107 = .ok (.ifCond .eq 14, 3) := by decide +kernel
theorem dX0_isAsSaid_110 : decode cX0_isAsSaid 110 = .ok (.iload_n 3, 1) := by decide +kernel
theorem dX0_isAsSaid_111 : decode cX0_isAsSaid 111 = .ok (.invokestatic 56, 3) := by decide +kernel
theorem dX0_isAsSaid_114 : decode cX0_isAsSaid 114 = .ok (.ifCond .eq 7, 3) := by decide +kernel
theorem dX0_isAsSaid_117 : decode cX0_isAsSaid 117 = .ok (.iconst 1, 1) := by decide +kernel
theorem dX0_isAsSaid_118 : decode cX0_isAsSaid 118 = .ok (.goto 4, 3) := by decide +kernel
theorem dX0_isAsSaid_121 : decode cX0_isAsSaid 121 = .ok (.iconst 0, 1) := by decide +kernel
theorem dX0_isAsSaid_122 : decode cX0_isAsSaid 122 = .ok (.ireturn, 1) := by decide +kernel
theorem dX0_isAsSaid_123 : decode cX0_isAsSaid 123 = .ok (.iload_n 2, 1) := by decide +kernel
theorem dX0_isAsSaid_124 : decode cX0_isAsSaid 124 = .ok (.invokestatic 48, 3) := by decide +kernel
theorem dX0_isAsSaid_127 : decode cX0_isAsSaid 127 = .ok (.ireturn, 1) := by decide +kernel
theorem dX0_isAsSaid_128 : decode cX0_isAsSaid 128 = .ok (.aload_n 0, 1) := by decide +kernel
theorem dX0_isAsSaid_129 : decode cX0_isAsSaid 129 = .ok (.iload_n 2, 1) := by decide +kernel
theorem dX0_isAsSaid_130 : decode cX0_isAsSaid 130 = .ok (.invokevirtual 105, 3) := by decide +kernel
theorem dX0_isAsSaid_133 : decode cX0_isAsSaid 133 = .ok (.ifCond .eq 15, 3) := by decide +kernel
theorem dX0_isAsSaid_136 : decode cX0_isAsSaid 136 = .ok (.aload_n 0, 1) := by decide +kernel
theorem dX0_isAsSaid_137 : decode cX0_isAsSaid 137 = .ok (.iload_n 3, 1) := by decide +kernel
theorem dX0_isAsSaid_138 : decode cX0_isAsSaid 138 = .ok (.invokevirtual 105, 3) := by decide +kernel
theorem dX0_isAsSaid_141 : decode cX0_isAsSaid 141 = .ok (.ifCond .eq 7, 3) := by decide +kernel
theorem dX0_isAsSaid_144 : decode cX0_isAsSaid 144 = .ok (.iconst 1, 1) := by decide +kernel
theorem dX0_isAsSaid_145 : decode cX0_isAsSaid 145 = .ok (.goto 4, 3) := by decide +kernel
theorem dX0_isAsSaid_148 : decode cX0_isAsSaid 148 = .ok (.iconst 0, 1) := by decide +kernel
theorem dX0_isAsSaid_149 : decode cX0_isAsSaid 149 = .ok (.ireturn, 1) := by decide +kernel
theorem dX0_isAsSaid_150 : decode cX0_isAsSaid 150 = .ok (.iload_n 2, 1) := by decide +kernel
theorem dX0_isAsSaid_151 : decode cX0_isAsSaid 151 = .ok (.invokestatic 165, 3) := by decide +kernel
theorem dX0_isAsSaid_154 : decode cX0_isAsSaid 154 = .ok (.ifCond .eq 15, 3) := by decide +kernel
theorem dX0_isAsSaid_157 : decode cX0_isAsSaid 157 = .ok (.aload_n 0, 1) := by decide +kernel
theorem dX0_isAsSaid_158 : decode cX0_isAsSaid 158 = .ok (.iload_n 3, 1) := by decide +kernel
theorem dX0_isAsSaid_159 : decode cX0_isAsSaid 159 = .ok (.invokevirtual 105, 3) := by decide +kernel
theorem dX0_isAsSaid_162 : decode cX0_isAsSaid 162 = .ok (.ifCond .eq 7, 3) := by decide +kernel
theorem dX0_isAsSaid_165 : decode cX0_isAsSaid 165 = .ok (.iconst 1, 1) := by decide +kernel
theorem dX0_isAsSaid_166 : decode cX0_isAsSaid 166 = .ok (.goto 4, 3) := by decide +kernel
theorem dX0_isAsSaid_169 : decode cX0_isAsSaid 169 = .ok (.iconst 0, 1) := by decide +kernel
theorem dX0_isAsSaid_170 : decode cX0_isAsSaid 170 = .ok (.ireturn, 1) := by decide +kernel
theorem dX0_isAsSaid_171 : decode cX0_isAsSaid 171 = .ok (.aload_n 0, 1) := by decide +kernel
theorem dX0_isAsSaid_172 : decode cX0_isAsSaid 172 = .ok (.iload_n 2, 1) := by decide +kernel
theorem dX0_isAsSaid_173 : decode cX0_isAsSaid 173 = .ok (.invokevirtual 105, 3) := by decide +kernel
theorem dX0_isAsSaid_176 : decode cX0_isAsSaid 176 = .ok (.ireturn, 1) := by decide +kernel
theorem dX0_isAsSaid_177 : decode cX0_isAsSaid 177 = .ok (.aload_n 0, 1) := by decide +kernel
theorem dX0_isAsSaid_178 : decode cX0_isAsSaid 178 = .ok (.iload_n 2, 1) := by decide +kernel
theorem dX0_isAsSaid_179 : decode cX0_isAsSaid 179 = .ok (.invokevirtual 105, 3) := by decide +kernel
theorem dX0_isAsSaid_182 : decode cX0_isAsSaid 182 = .ok (.ifCond .eq 27, 3) := by decide +kernel
theorem dX0_isAsSaid_185 : decode cX0_isAsSaid 185 = .ok (.iload_n 3, 1) := by decide +kernel
theorem dX0_isAsSaid_186 : decode cX0_isAsSaid 186 = .ok (.invokestatic 168, 3) := by decide +kernel
theorem dX0_isAsSaid_189 : decode cX0_isAsSaid 189 = .ok (.ifCond .eq 20, 3) := by decide +kernel
theorem dX0_isAsSaid_192 : decode cX0_isAsSaid 192 = .ok (.iload 4, 2) := by decide +kernel
theorem dX0_isAsSaid_194 : decode cX0_isAsSaid 194 = .ok (.ifCond .eq 11, 3) := by decide +kernel
theorem dX0_isAsSaid_197 : decode cX0_isAsSaid 197 = .ok (.iload 4, 2) := by decide +kernel
theorem dX0_isAsSaid_199 : decode cX0_isAsSaid 199 = .ok (.invokestatic 168, 3) := by decide +kernel
theorem dX0_isAsSaid_202 : decode cX0_isAsSaid 202 = .ok (.ifCond .eq 7, 3) := by decide +kernel
theorem dX0_isAsSaid_205 : decode cX0_isAsSaid 205 = .ok (.iconst 1, 1) := by decide +kernel
theorem dX0_isAsSaid_206 : decode cX0_isAsSaid 206 = .ok (.goto 4, 3) := by decide +kernel
theorem dX0_isAsSaid_209 : decode cX0_isAsSaid 209 = .ok (.iconst 0, 1) := by decide +kernel
theorem dX0_isAsSaid_210 : decode cX0_isAsSaid 210 = .ok (.ireturn, 1) := by decide +kernel
theorem dX0_isAsSaid_211 : decode cX0_isAsSaid 211 = .ok (.iconst 0, 1) := by decide +kernel
theorem dX0_isAsSaid_212 : decode cX0_isAsSaid 212 = .ok (.ireturn, 1) := by decide +kernel
theorem dX0_canBeTurned_0 : decode cX0_canBeTurned 0 = .ok (.iload_n 0, 1) := by decide +kernel
theorem dX0_canBeTurned_1 : decode cX0_canBeTurned 1 = .ok (.iconst 1, 1) := by decide +kernel
theorem dX0_canBeTurned_2 : decode cX0_canBeTurned 2 = .ok (.if_icmp .eq 13, 3) := by decide +kernel
theorem dX0_canBeTurned_5 : decode cX0_canBeTurned 5 = .ok (.iload_n 0, 1) := by decide +kernel
theorem dX0_canBeTurned_6 : decode cX0_canBeTurned 6 = .ok (.iconst 4, 1) := by decide +kernel
theorem dX0_canBeTurned_7 : decode cX0_canBeTurned 7 = .ok (.if_icmp .eq 8, 3) := by decide +kernel
theorem dX0_canBeTurned_10 : decode cX0_canBeTurned 10 = .ok (.iload_n 0, 1) := by decide +kernel
theorem dX0_canBeTurned_11 : decode cX0_canBeTurned 11 = .ok (.iconst 5, 1) := by decide +kernel
theorem dX0_canBeTurned_12 : decode cX0_canBeTurned 12 = .ok (.if_icmp .ne 7, 3) := by decide +kernel
theorem dX0_canBeTurned_15 : decode cX0_canBeTurned 15 = .ok (.iconst 1, 1) := by decide +kernel
theorem dX0_canBeTurned_16 : decode cX0_canBeTurned 16 = .ok (.goto 4, 3) := by decide +kernel
theorem dX0_canBeTurned_19 : decode cX0_canBeTurned 19 = .ok (.iconst 0, 1) := by decide +kernel
theorem dX0_canBeTurned_20 : decode cX0_canBeTurned 20 = .ok (.ireturn, 1) := by decide +kernel
theorem dX0_isTaken_0 : decode cX0_isTaken 0 = .ok (.iload_n 1, 1) := by decide +kernel
theorem dX0_isTaken_1 : decode cX0_isTaken 1 = .ok (.invokestatic 171, 3) := by decide +kernel
theorem dX0_isTaken_4 : decode cX0_isTaken 4 = .ok (.ifCond .eq 12, 3) := by decide +kernel
theorem dX0_isTaken_7 : decode cX0_isTaken 7 = .ok (.aload_n 0, 1) := by decide +kernel
theorem dX0_isTaken_8 : decode cX0_isTaken 8 = .ok (.getfield 25, 3) := by decide +kernel
theorem dX0_isTaken_11 : decode cX0_isTaken 11 = .ok (.iload_n 2, 1) := by decide +kernel
theorem dX0_isTaken_12 : decode cX0_isTaken 12 = .ok (.baload, 1) := by decide +kernel
theorem dX0_isTaken_13 : decode cX0_isTaken 13 = .ok (.ifCond .ne 31, 3) := by decide +kernel
theorem dX0_isTaken_16 : decode cX0_isTaken 16 = .ok (.iload_n 1, 1) := by decide +kernel
theorem dX0_isTaken_17 : decode cX0_isTaken 17 = .ok (.invokestatic 174, 3) := by decide +kernel
theorem dX0_isTaken_20 : decode cX0_isTaken 20 = .ok (.ifCond .eq 12, 3) := by decide +kernel
theorem dX0_isTaken_23 : decode cX0_isTaken 23 = .ok (.aload_n 0, 1) := by decide +kernel
theorem dX0_isTaken_24 : decode cX0_isTaken 24 = .ok (.getfield 25, 3) := by decide +kernel
theorem dX0_isTaken_27 : decode cX0_isTaken 27 = .ok (.iload_n 3, 1) := by decide +kernel
theorem dX0_isTaken_28 : decode cX0_isTaken 28 = .ok (.baload, 1) := by decide +kernel
theorem dX0_isTaken_29 : decode cX0_isTaken 29 = .ok (.ifCond .ne 15, 3) := by decide +kernel
theorem dX0_isTaken_32 : decode cX0_isTaken 32 = .ok (.iload_n 1, 1) := by decide +kernel
theorem dX0_isTaken_33 : decode cX0_isTaken 33 = .ok (.invokestatic 162, 3) := by decide +kernel
theorem dX0_isTaken_36 : decode cX0_isTaken 36 = .ok (.ifCond .eq 12, 3) := by decide +kernel
theorem dX0_isTaken_39 : decode cX0_isTaken 39 = .ok (.iload_n 2, 1) := by decide +kernel
theorem dX0_isTaken_40 : decode cX0_isTaken 40 = .ok (.iload_n 3, 1) := by decide +kernel
theorem dX0_isTaken_41 : decode cX0_isTaken 41 = .ok (.if_icmp .ne 7, 3) := by decide +kernel
theorem dX0_isTaken_44 : decode cX0_isTaken 44 = .ok (.iconst 1, 1) := by decide +kernel
theorem dX0_isTaken_45 : decode cX0_isTaken 45 = .ok (.goto 4, 3) := by decide +kernel
theorem dX0_isTaken_48 : decode cX0_isTaken 48 = .ok (.iconst 0, 1) := by decide +kernel
theorem dX0_isTaken_49 : decode cX0_isTaken 49 = .ok (.ireturn, 1) := by decide +kernel
theorem dX0_levelAbove_0 : decode cX0_levelAbove 0 = .ok (.iload_n 1, 1) := by decide +kernel
theorem dX0_levelAbove_1 : decode cX0_levelAbove 1 = .ok (.invokestatic 171, 3) := by decide +kernel
theorem dX0_levelAbove_4 : decode cX0_levelAbove 4 = .ok (.ifCond .eq 12, 3) := by decide +kernel
theorem dX0_levelAbove_7 : decode cX0_levelAbove 7 = .ok (.aload_n 0, 1) := by decide +kernel
theorem dX0_levelAbove_8 : decode cX0_levelAbove 8 = .ok (.getfield 22, 3) := by decide +kernel
theorem dX0_levelAbove_11 : decode cX0_levelAbove 11 = .ok (.iload_n 2, 1) := by decide +kernel
theorem dX0_levelAbove_12 : decode cX0_levelAbove 12 = .ok (.iaload, 1) := by decide +kernel
theorem dX0_levelAbove_13 : decode cX0_levelAbove 13 = .ok (.goto 4, 3) := by decide +kernel
theorem dX0_levelAbove_16 : decode cX0_levelAbove 16 = .ok (.iconst 0, 1) := by decide +kernel
theorem dX0_levelAbove_17 : decode cX0_levelAbove 17 = .ok (.istore 4, 2) := by decide +kernel
theorem dX0_levelAbove_19 : decode cX0_levelAbove 19 = .ok (.iload_n 1, 1) := by decide +kernel
theorem dX0_levelAbove_20 : decode cX0_levelAbove 20 = .ok (.invokestatic 174, 3) := by decide +kernel
theorem dX0_levelAbove_23 : decode cX0_levelAbove 23 = .ok (.ifCond .eq 12, 3) := by decide +kernel
theorem dX0_levelAbove_26 : decode cX0_levelAbove 26 = .ok (.aload_n 0, 1) := by decide +kernel
theorem dX0_levelAbove_27 : decode cX0_levelAbove 27 = .ok (.getfield 22, 3) := by decide +kernel
theorem dX0_levelAbove_30 : decode cX0_levelAbove 30 = .ok (.iload_n 3, 1) := by decide +kernel
theorem dX0_levelAbove_31 : decode cX0_levelAbove 31 = .ok (.iaload, 1) := by decide +kernel
theorem dX0_levelAbove_32 : decode cX0_levelAbove 32 = .ok (.goto 4, 3) := by decide +kernel
theorem dX0_levelAbove_35 : decode cX0_levelAbove 35 = .ok (.iconst 0, 1) := by decide +kernel
theorem dX0_levelAbove_36 : decode cX0_levelAbove 36 = .ok (.istore 5, 2) := by decide +kernel
theorem dX0_levelAbove_38 : decode cX0_levelAbove 38 = .ok (.iload 4, 2) := by decide +kernel
theorem dX0_levelAbove_40 : decode cX0_levelAbove 40 = .ok (.iload 5, 2) := by decide +kernel
theorem dX0_levelAbove_42 : decode cX0_levelAbove 42 = .ok (.invokestatic 177, 3) := by decide +kernel
theorem dX0_levelAbove_45 : decode cX0_levelAbove 45 = .ok (.iconst 1, 1) := by decide +kernel
theorem dX0_levelAbove_46 : decode cX0_levelAbove 46 = .ok (.iadd, 1) := by decide +kernel
theorem dX0_levelAbove_47 : decode cX0_levelAbove 47 = .ok (.ireturn, 1) := by decide +kernel
theorem dX0_addPolicy_0 : decode cX0_addPolicy 0 = .ok (.aload_n 0, 1) := by decide +kernel
theorem dX0_addPolicy_1 : decode cX0_addPolicy 1 = .ok (.getfield 93, 3) := by decide +kernel
theorem dX0_addPolicy_4 : decode cX0_addPolicy 4 = .ok (.istore 6, 2) := by decide +kernel
theorem dX0_addPolicy_6 : decode cX0_addPolicy 6 = .ok (.aload_n 0, 1) := by decide +kernel
theorem dX0_addPolicy_7 : decode cX0_addPolicy 7 = .ok (.getfield 9, 3) := by decide +kernel
theorem dX0_addPolicy_10 : decode cX0_addPolicy 10 = .ok (.iload 6, 2) := by decide +kernel
theorem dX0_addPolicy_12 : decode cX0_addPolicy 12 = .ok (.iload_n 1, 1) := by decide +kernel
theorem dX0_addPolicy_13 : decode cX0_addPolicy 13 = .ok (.iastore, 1) := by decide +kernel
theorem dX0_addPolicy_14 : decode cX0_addPolicy 14 = .ok (.aload_n 0, 1) := by decide +kernel
theorem dX0_addPolicy_15 : decode cX0_addPolicy 15 = .ok (.getfield 13, 3) := by decide +kernel
theorem dX0_addPolicy_18 : decode cX0_addPolicy 18 = .ok (.iload 6, 2) := by decide +kernel
theorem dX0_addPolicy_20 : decode cX0_addPolicy 20 = .ok (.iload_n 2, 1) := by decide +kernel
theorem dX0_addPolicy_21 : decode cX0_addPolicy 21 = .ok (.iastore, 1) := by decide +kernel
theorem dX0_addPolicy_22 : decode cX0_addPolicy 22 = .ok (.aload_n 0, 1) := by decide +kernel
theorem dX0_addPolicy_23 : decode cX0_addPolicy 23 = .ok (.getfield 16, 3) := by decide +kernel
theorem dX0_addPolicy_26 : decode cX0_addPolicy 26 = .ok (.iload 6, 2) := by decide +kernel
theorem dX0_addPolicy_28 : decode cX0_addPolicy 28 = .ok (.iload_n 3, 1) := by decide +kernel
theorem dX0_addPolicy_29 : decode cX0_addPolicy 29 = .ok (.iastore, 1) := by decide +kernel
theorem dX0_addPolicy_30 : decode cX0_addPolicy 30 = .ok (.aload_n 0, 1) := by decide +kernel
theorem dX0_addPolicy_31 : decode cX0_addPolicy 31 = .ok (.getfield 19, 3) := by decide +kernel
theorem dX0_addPolicy_34 : decode cX0_addPolicy 34 = .ok (.iload 6, 2) := by decide +kernel
theorem dX0_addPolicy_36 : decode cX0_addPolicy 36 = .ok (.iload 4, 2) := by decide +kernel
theorem dX0_addPolicy_38 : decode cX0_addPolicy 38 = .ok (.iastore, 1) := by decide +kernel
theorem dX0_addPolicy_39 : decode cX0_addPolicy 39 = .ok (.aload_n 0, 1) := by decide +kernel
theorem dX0_addPolicy_40 : decode cX0_addPolicy 40 = .ok (.getfield 22, 3) := by decide +kernel
theorem dX0_addPolicy_43 : decode cX0_addPolicy 43 = .ok (.iload 6, 2) := by decide +kernel
theorem dX0_addPolicy_45 : decode cX0_addPolicy 45 = .ok (.iload 5, 2) := by decide +kernel
theorem dX0_addPolicy_47 : decode cX0_addPolicy 47 = .ok (.iastore, 1) := by decide +kernel
theorem dX0_addPolicy_48 : decode cX0_addPolicy 48 = .ok (.iload_n 1, 1) := by decide +kernel
theorem dX0_addPolicy_49 : decode cX0_addPolicy 49 = .ok (.invokestatic 171, 3) := by decide +kernel
theorem dX0_addPolicy_52 : decode cX0_addPolicy 52 = .ok (.ifCond .eq 10, 3) := by decide +kernel
theorem dX0_addPolicy_55 : decode cX0_addPolicy 55 = .ok (.aload_n 0, 1) := by decide +kernel
theorem dX0_addPolicy_56 : decode cX0_addPolicy 56 = .ok (.getfield 25, 3) := by decide +kernel
theorem dX0_addPolicy_59 : decode cX0_addPolicy 59 = .ok (.iload_n 2, 1) := by decide +kernel
theorem dX0_addPolicy_60 : decode cX0_addPolicy 60 = .ok (.iconst 1, 1) := by decide +kernel
theorem dX0_addPolicy_61 : decode cX0_addPolicy 61 = .ok (.bastore, 1) := by decide +kernel
theorem dX0_addPolicy_62 : decode cX0_addPolicy 62 = .ok (.iload_n 1, 1) := by decide +kernel
theorem dX0_addPolicy_63 : decode cX0_addPolicy 63 = .ok (.invokestatic 174, 3) := by decide +kernel
theorem dX0_addPolicy_66 : decode cX0_addPolicy 66 = .ok (.ifCond .eq 10, 3) := by decide +kernel
theorem dX0_addPolicy_69 : decode cX0_addPolicy 69 = .ok (.aload_n 0, 1) := by decide +kernel
theorem dX0_addPolicy_70 : decode cX0_addPolicy 70 = .ok (.getfield 25, 3) := by decide +kernel
theorem dX0_addPolicy_73 : decode cX0_addPolicy 73 = .ok (.iload_n 3, 1) := by decide +kernel
theorem dX0_addPolicy_74 : decode cX0_addPolicy 74 = .ok (.iconst 1, 1) := by decide +kernel
theorem dX0_addPolicy_75 : decode cX0_addPolicy 75 = .ok (.bastore, 1) := by decide +kernel
theorem dX0_addPolicy_76 : decode cX0_addPolicy 76 = .ok (.aload_n 0, 1) := by decide +kernel
theorem dX0_addPolicy_77 : decode cX0_addPolicy 77 = .ok (.dup, 1) := by decide +kernel
theorem dX0_addPolicy_78 : decode cX0_addPolicy 78 = .ok (.getfield 93, 3) := by decide +kernel
theorem dX0_addPolicy_81 : decode cX0_addPolicy 81 = .ok (.iconst 1, 1) := by decide +kernel
theorem dX0_addPolicy_82 : decode cX0_addPolicy 82 = .ok (.iadd, 1) := by decide +kernel
theorem dX0_addPolicy_83 : decode cX0_addPolicy 83 = .ok (.putfield 93, 3) := by decide +kernel
theorem dX0_addPolicy_86 : decode cX0_addPolicy 86 = .ok (.iload 6, 2) := by decide +kernel
theorem dX0_addPolicy_88 : decode cX0_addPolicy 88 = .ok (.ireturn, 1) := by decide +kernel
theorem dX0_suggestionFrom_0 : decode cX0_suggestionFrom 0 = .ok (.iload_n 1, 1) := by decide +kernel
theorem dX0_suggestionFrom_1 : decode cX0_suggestionFrom 1 = .ok (.bipush 8, 2) := by decide +kernel
theorem dX0_suggestionFrom_3 : decode cX0_suggestionFrom 3 = .ok (.imul, 1) := by decide +kernel
theorem dX0_suggestionFrom_4 : decode cX0_suggestionFrom 4 = .ok (.iload_n 0, 1) := by decide +kernel
theorem dX0_suggestionFrom_5 : decode cX0_suggestionFrom 5 = .ok (.iadd, 1) := by decide +kernel
theorem dX0_suggestionFrom_6 : decode cX0_suggestionFrom 6 = .ok (.ireturn, 1) := by decide +kernel
theorem dX0_kindOf_0 : decode cX0_kindOf 0 = .ok (.iload_n 0, 1) := by decide +kernel
theorem dX0_kindOf_1 : decode cX0_kindOf 1 = .ok (.bipush 8, 2) := by decide +kernel
theorem dX0_kindOf_3 : decode cX0_kindOf 3 = .ok (.irem, 1) := by decide +kernel
theorem dX0_kindOf_4 : decode cX0_kindOf 4 = .ok (.ireturn, 1) := by decide +kernel
theorem dX0_sourceOf_0 : decode cX0_sourceOf 0 = .ok (.iload_n 0, 1) := by decide +kernel
theorem dX0_sourceOf_1 : decode cX0_sourceOf 1 = .ok (.bipush 8, 2) := by decide +kernel
theorem dX0_sourceOf_3 : decode cX0_sourceOf 3 = .ok (.idiv, 1) := by decide +kernel
theorem dX0_sourceOf_4 : decode cX0_sourceOf 4 = .ok (.ireturn, 1) := by decide +kernel
theorem dX0_suggestNow_0 : decode cX0_suggestNow 0 = .ok (.aload_n 0, 1) := by decide +kernel
theorem dX0_suggestNow_1 : decode cX0_suggestNow 1 = .ok (.getfield 44, 3) := by decide +kernel
theorem dX0_suggestNow_4 : decode cX0_suggestNow 4 = .ok (.iconst (-1), 1) := by decide +kernel
theorem dX0_suggestNow_5 : decode cX0_suggestNow 5 = .ok (.if_icmp .ne 7, 3) := by decide +kernel
theorem dX0_suggestNow_8 : decode cX0_suggestNow 8 = .ok (.iconst 0, 1) := by decide +kernel
theorem dX0_suggestNow_9 : decode cX0_suggestNow 9 = .ok (.goto 14, 3) := by decide +kernel
theorem dX0_suggestNow_12 : decode cX0_suggestNow 12 = .ok (.aload_n 0, 1) := by decide +kernel
theorem dX0_suggestNow_13 : decode cX0_suggestNow 13 = .ok (.aload_n 0, 1) := by decide +kernel
theorem dX0_suggestNow_14 : decode cX0_suggestNow 14 = .ok (.getfield 44, 3) := by decide +kernel
theorem dX0_suggestNow_17 : decode cX0_suggestNow 17 = .ok (.iload_n 1, 1) := by decide +kernel
theorem dX0_suggestNow_18 : decode cX0_suggestNow 18 = .ok (.iload_n 2, 1) := by decide +kernel
theorem dX0_suggestNow_19 : decode cX0_suggestNow 19 = .ok (.iconst 0, 1) := by decide +kernel
theorem dX0_suggestNow_20 : decode cX0_suggestNow 20 = .ok (.invokevirtual 180, 3) := by decide +kernel
theorem dX0_suggestNow_23 : decode cX0_suggestNow 23 = .ok (.ireturn, 1) := by decide +kernel
theorem dX0_suggest_0 : decode cX0_suggest 0 = .ok (.aload_n 0, 1) := by decide +kernel
theorem dX0_suggest_1 : decode cX0_suggest 1 = .ok (.getfield 9, 3) := by decide +kernel
theorem dX0_suggest_4 : decode cX0_suggest 4 = .ok (.iload_n 1, 1) := by decide +kernel
theorem dX0_suggest_5 : decode cX0_suggest 5 = .ok (.iaload, 1) := by decide +kernel
theorem dX0_suggest_6 : decode cX0_suggest 6 = .ok (.tableswitch 190 6 14 #[180, 190, 50, 50, 50, 50, 60, 92, 138], 50) := by decide +kernel
theorem dX0_suggest_56 : decode cX0_suggest 56 = .ok (.aload_n 0, 1) := by decide +kernel
theorem dX0_suggest_57 : decode cX0_suggest 57 = .ok (.iload_n 1, 1) := by decide +kernel
theorem dX0_suggest_58 : decode cX0_suggest 58 = .ok (.iload_n 2, 1) := by decide +kernel
theorem dX0_suggest_59 : decode cX0_suggest 59 = .ok (.iload_n 3, 1) := by decide +kernel
theorem dX0_suggest_60 : decode cX0_suggest 60 = .ok (.iload 4, 2) := by decide +kernel
theorem dX0_suggest_62 : decode cX0_suggest 62 = .ok (.invokevirtual 184, 3) := by decide +kernel
theorem dX0_suggest_65 : decode cX0_suggest 65 = .ok (.ireturn, 1) := by decide +kernel
theorem dX0_suggest_66 : decode cX0_suggest 66 = .ok (.aload_n 0, 1) := by decide +kernel
theorem dX0_suggest_67 : decode cX0_suggest 67 = .ok (.getfield 13, 3) := by decide +kernel
theorem dX0_suggest_70 : decode cX0_suggest 70 = .ok (.iload_n 1, 1) := by decide +kernel
theorem dX0_suggest_71 : decode cX0_suggest 71 = .ok (.iaload, 1) := by decide +kernel
theorem dX0_suggest_72 : decode cX0_suggest 72 = .ok (.iload_n 2, 1) := by decide +kernel
theorem dX0_suggest_73 : decode cX0_suggest 73 = .ok (.invokestatic 187, 3) := by decide +kernel
theorem dX0_suggest_76 : decode cX0_suggest 76 = .ok (.ifCond .eq 20, 3) := by decide +kernel
theorem dX0_suggest_79 : decode cX0_suggest 79 = .ok (.aload_n 0, 1) := by decide +kernel
theorem dX0_suggest_80 : decode cX0_suggest 80 = .ok (.aload_n 0, 1) := by decide +kernel
theorem dX0_suggest_81 : decode cX0_suggest 81 = .ok (.getfield 16, 3) := by decide +kernel
theorem dX0_suggest_84 : decode cX0_suggest 84 = .ok (.iload_n 1, 1) := by decide +kernel
theorem dX0_suggest_85 : decode cX0_suggest 85 = .ok (.iaload, 1) := by decide +kernel
theorem dX0_suggest_86 : decode cX0_suggest 86 = .ok (.iload_n 2, 1) := by decide +kernel
theorem dX0_suggest_87 : decode cX0_suggest 87 = .ok (.iload_n 3, 1) := by decide +kernel
theorem dX0_suggest_88 : decode cX0_suggest 88 = .ok (.iload 4, 2) := by decide +kernel
theorem dX0_suggest_90 : decode cX0_suggest 90 = .ok (.invokevirtual 180, 3) := by decide +kernel
theorem dX0_suggest_93 : decode cX0_suggest 93 = .ok (.goto 4, 3) := by decide +kernel
theorem dX0_suggest_96 : decode cX0_suggest 96 = .ok (.iconst 0, 1) := by decide +kernel
theorem dX0_suggest_97 : decode cX0_suggest 97 = .ok (.ireturn, 1) := by decide +kernel
theorem dX0_suggest_98 : decode cX0_suggest 98 = .ok (.aload_n 0, 1) := by decide +kernel
theorem dX0_suggest_99 : decode cX0_suggest 99 = .ok (.aload_n 0, 1) := by decide +kernel
theorem dX0_suggest_100 : decode cX0_suggest 100 = .ok (.getfield 13, 3) := by decide +kernel
theorem dX0_suggest_103 : decode cX0_suggest 103 = .ok (.iload_n 1, 1) := by decide +kernel
theorem dX0_suggest_104 : decode cX0_suggest 104 = .ok (.iaload, 1) := by decide +kernel
theorem dX0_suggest_105 : decode cX0_suggest 105 = .ok (.iload_n 2, 1) := by decide +kernel
theorem dX0_suggest_106 : decode cX0_suggest 106 = .ok (.iload_n 3, 1) := by decide +kernel
theorem dX0_suggest_107 : decode cX0_suggest 107 = .ok (.iload 4, 2) := by decide +kernel
theorem dX0_suggest_109 : decode cX0_suggest 109 = .ok (.invokevirtual 180, 3) := by decide +kernel
theorem dX0_suggest_112 : decode cX0_suggest 112 = .ok (.istore 5, 2) := by decide +kernel
theorem dX0_suggest_114 : decode cX0_suggest 114 = .ok (.iload 4, 2) := by decide +kernel
theorem dX0_suggest_116 : decode cX0_suggest 116 = .ok (.ifCond .eq 25, 3) := by decide +kernel
theorem dX0_suggest_119 : decode cX0_suggest 119 = .ok (.iload 5, 2) := by decide +kernel
theorem dX0_suggest_121 : decode cX0_suggest 121 = .ok (.invokestatic 137, 3) := by decide +kernel
theorem dX0_suggest_124 : decode cX0_suggest 124 = .ok (.ifCond .eq 17, 3) := by decide +kernel
theorem dX0_suggest_127 : decode cX0_suggest 127 = .ok (.aload_n 0, 1) := by decide +kernel
theorem dX0_suggest_128 : decode cX0_suggest 128 = .ok (.bipush 16, 2) := by decide +kernel
theorem dX0_suggest_130 : decode cX0_suggest 130 = .ok (.iload 5, 2) := by decide +kernel
theorem dX0_suggest_132 : decode cX0_suggest 132 = .ok (.invokestatic 137, 3) := by decide +kernel
theorem dX0_suggest_135 : decode cX0_suggest 135 = .ok (.imul, 1) := by decide +kernel
theorem dX0_suggest_136 : decode cX0_suggest 136 = .ok (.iload_n 2, 1) := by decide +kernel
theorem dX0_suggest_137 : decode cX0_suggest 137 = .ok (.iadd, 1) := by decide +kernel
theorem dX0_suggest_138 : decode cX0_suggest 138 = .ok (.invokevirtual 190, 3) := by decide +kernel
theorem dX0_suggest_141 : decode cX0_suggest 141 = .ok (.iload 5, 2) := by decide +kernel
theorem dX0_suggest_143 : decode cX0_suggest 143 = .ok (.ireturn, 1) := by decide +kernel
theorem dX0_suggest_144 : decode cX0_suggest 144 = .ok (.aload_n 0, 1) := by decide +kernel
theorem dX0_suggest_145 : decode cX0_suggest 145 = .ok (.aload_n 0, 1) := by decide +kernel
theorem dX0_suggest_146 : decode cX0_suggest 146 = .ok (.getfield 13, 3) := by decide +kernel
theorem dX0_suggest_149 : decode cX0_suggest 149 = .ok (.iload_n 1, 1) := by decide +kernel
theorem dX0_suggest_150 : decode cX0_suggest 150 = .ok (.iaload, 1) := by decide +kernel
theorem dX0_suggest_151 : decode cX0_suggest 151 = .ok (.iload_n 2, 1) := by decide +kernel
theorem dX0_suggest_152 : decode cX0_suggest 152 = .ok (.iload_n 3, 1) := by decide +kernel
theorem dX0_suggest_153 : decode cX0_suggest 153 = .ok (.iload 4, 2) := by decide +kernel
theorem dX0_suggest_155 : decode cX0_suggest 155 = .ok (.invokevirtual 180, 3) := by decide +kernel
theorem dX0_suggest_158 : decode cX0_suggest 158 = .ok (.istore 6, 2) := by decide +kernel
theorem dX0_suggest_160 : decode cX0_suggest 160 = .ok (.iload 6, 2) := by decide +kernel
theorem dX0_suggest_162 : decode cX0_suggest 162 = .ok (.invokestatic 137, 3) := by decide +kernel
theorem dX0_suggest_165 : decode cX0_suggest 165 = .ok (.aload_n 0, 1) := by decide +kernel
theorem dX0_suggest_166 : decode cX0_suggest 166 = .ok (.getfield 16, 3) := by decide +kernel
theorem dX0_suggest_169 : decode cX0_suggest 169 = .ok (.iload_n 1, 1) := by decide +kernel
theorem dX0_suggest_170 : decode cX0_suggest 170 = .ok (.iaload, 1) := by decide +kernel
theorem dX0_suggest_171 : decode cX0_suggest 171 = .ok (.if_icmp .ne 12, 3) := by decide +kernel
theorem dX0_suggest_174 : decode cX0_suggest 174 = .ok (.aload_n 0, 1) := by decide +kernel
theorem dX0_suggest_175 : decode cX0_suggest 175 = .ok (.getfield 19, 3) := by decide +kernel
theorem dX0_suggest_178 : decode cX0_suggest 178 = .ok (.iload_n 1, 1) := by decide +kernel
theorem dX0_suggest_179 : decode cX0_suggest 179 = .ok (.iaload, 1) := by decide +kernel
theorem dX0_suggest_180 : decode cX0_suggest 180 = .ok (.goto 5, 3) := by decide +kernel
theorem dX0_suggest_183 : decode cX0_suggest 183 = .ok (.iload 6, 2) := by decide +kernel
theorem dX0_suggest_185 : decode cX0_suggest 185 = .ok (.ireturn, 1) := by decide +kernel
theorem dX0_suggest_186 : decode cX0_suggest 186 = .ok (.aload_n 0, 1) := by decide +kernel
theorem dX0_suggest_187 : decode cX0_suggest 187 = .ok (.iload_n 1, 1) := by decide +kernel
theorem dX0_suggest_188 : decode cX0_suggest 188 = .ok (.iload_n 2, 1) := by decide +kernel
theorem dX0_suggest_189 : decode cX0_suggest 189 = .ok (.invokevirtual 194, 3) := by decide +kernel
theorem dX0_suggest_192 : decode cX0_suggest 192 = .ok (.invokestatic 197, 3) := by decide +kernel
theorem dX0_suggest_195 : decode cX0_suggest 195 = .ok (.ireturn, 1) := by decide +kernel
theorem dX0_suggest_196 : decode cX0_suggest 196 = .ok (.aload_n 0, 1) := by decide +kernel
theorem dX0_suggest_197 : decode cX0_suggest 197 = .ok (.getfield 13, 3) := by decide +kernel
theorem dX0_suggest_200 : decode cX0_suggest 200 = .ok (.iload_n 1, 1) := by decide +kernel
theorem dX0_suggest_201 : decode cX0_suggest 201 = .ok (.iaload, 1) := by decide +kernel
theorem dX0_suggest_202 : decode cX0_suggest 202 = .ok (.iload_n 2, 1) := by decide +kernel
theorem dX0_suggest_203 : decode cX0_suggest 203 = .ok (.invokestatic 187, 3) := by decide +kernel
theorem dX0_suggest_206 : decode cX0_suggest 206 = .ok (.ifCond .eq 12, 3) := by decide +kernel
theorem dX0_suggest_209 : decode cX0_suggest 209 = .ok (.aload_n 0, 1) := by decide +kernel
theorem dX0_suggest_210 : decode cX0_suggest 210 = .ok (.iload_n 1, 1) := by decide +kernel
theorem dX0_suggest_211 : decode cX0_suggest 211 = .ok (.iload_n 3, 1) := by decide +kernel
theorem dX0_suggest_212 : decode cX0_suggest 212 = .ok (.invokevirtual 200, 3) := by decide +kernel
theorem dX0_suggest_215 : decode cX0_suggest 215 = .ok (.goto 4, 3) := by decide +kernel
theorem dX0_suggest_218 : decode cX0_suggest 218 = .ok (.iconst 0, 1) := by decide +kernel
theorem dX0_suggest_219 : decode cX0_suggest 219 = .ok (.ireturn, 1) := by decide +kernel
theorem dX0_suggestOfPair_0 : decode cX0_suggestOfPair 0 = .ok (.aload_n 0, 1) := by decide +kernel
theorem dX0_suggestOfPair_1 : decode cX0_suggestOfPair 1 = .ok (.aload_n 0, 1) := by decide +kernel
theorem dX0_suggestOfPair_2 : decode cX0_suggestOfPair 2 = .ok (.getfield 13, 3) := by decide +kernel
theorem dX0_suggestOfPair_5 : decode cX0_suggestOfPair 5 = .ok (.iload_n 1, 1) := by decide +kernel
theorem dX0_suggestOfPair_6 : decode cX0_suggestOfPair 6 = .ok (.iaload, 1) := by decide +kernel
theorem dX0_suggestOfPair_7 : decode cX0_suggestOfPair 7 = .ok (.iload_n 2, 1) := by decide +kernel
theorem dX0_suggestOfPair_8 : decode cX0_suggestOfPair 8 = .ok (.iload_n 3, 1) := by decide +kernel
theorem dX0_suggestOfPair_9 : decode cX0_suggestOfPair 9 = .ok (.iload 4, 2) := by decide +kernel
theorem dX0_suggestOfPair_11 : decode cX0_suggestOfPair 11 = .ok (.invokevirtual 180, 3) := by decide +kernel
theorem dX0_suggestOfPair_14 : decode cX0_suggestOfPair 14 = .ok (.istore 5, 2) := by decide +kernel
theorem dX0_suggestOfPair_16 : decode cX0_suggestOfPair 16 = .ok (.aload_n 0, 1) := by decide +kernel
theorem dX0_suggestOfPair_17 : decode cX0_suggestOfPair 17 = .ok (.getfield 9, 3) := by decide +kernel
theorem dX0_suggestOfPair_20 : decode cX0_suggestOfPair 20 = .ok (.iload_n 1, 1) := by decide +kernel
theorem dX0_suggestOfPair_21 : decode cX0_suggestOfPair 21 = .ok (.iaload, 1) := by decide +kernel
theorem dX0_suggestOfPair_22 : decode cX0_suggestOfPair 22 = .ok (.bipush 8, 2) := by decide +kernel
theorem dX0_suggestOfPair_24 : decode cX0_suggestOfPair 24 = .ok (.if_icmp .eq 14, 3) := by decide +kernel
theorem dX0_suggestOfPair_27 : decode cX0_suggestOfPair 27 = .ok (.aload_n 0, 1) := by decide +kernel
theorem dX0_suggestOfPair_28 : decode cX0_suggestOfPair 28 = .ok (.getfield 9, 3) := by decide +kernel
theorem dX0_suggestOfPair_31 : decode cX0_suggestOfPair 31 = .ok (.iload_n 1, 1) := by decide +kernel
theorem dX0_suggestOfPair_32 : decode cX0_suggestOfPair 32 = .ok (.iaload, 1) := by decide +kernel
theorem dX0_suggestOfPair_33 : decode cX0_suggestOfPair 33 = .ok (.bipush 9, 2) := by decide +kernel
theorem dX0_suggestOfPair_35 : decode cX0_suggestOfPair 35 = .ok (.if_icmp .ne 7, 3) := by decide +kernel
theorem dX0_suggestOfPair_38 : decode cX0_suggestOfPair 38 = .ok (.iconst 1, 1) := by decide +kernel
theorem dX0_suggestOfPair_39 : decode cX0_suggestOfPair 39 = .ok (.goto 4, 3) := by decide +kernel
theorem dX0_suggestOfPair_42 : decode cX0_suggestOfPair 42 = .ok (.iconst 0, 1) := by decide +kernel
theorem dX0_suggestOfPair_43 : decode cX0_suggestOfPair 43 = .ok (.istore 6, 2) := by decide +kernel
theorem dX0_suggestOfPair_45 : decode cX0_suggestOfPair 45 = .ok (.iload 6, 2) := by decide +kernel
theorem dX0_suggestOfPair_47 : decode cX0_suggestOfPair 47 = .ok (.ifCond .ne 24, 3) := by decide +kernel
theorem dX0_suggestOfPair_50 : decode cX0_suggestOfPair 50 = .ok (.aload_n 0, 1) := by decide +kernel
theorem dX0_suggestOfPair_51 : decode cX0_suggestOfPair 51 = .ok (.getfield 9, 3) := by decide +kernel
theorem dX0_suggestOfPair_54 : decode cX0_suggestOfPair 54 = .ok (.iload_n 1, 1) := by decide +kernel
theorem dX0_suggestOfPair_55 : decode cX0_suggestOfPair 55 = .ok (.iaload, 1) := by decide +kernel
theorem dX0_suggestOfPair_56 : decode cX0_suggestOfPair 56 = .ok (.iload 5, 2) := by decide +kernel
theorem dX0_suggestOfPair_58 : decode cX0_suggestOfPair 58 = .ok (.invokestatic 137, 3) := by decide +kernel
theorem dX0_suggestOfPair_61 : decode cX0_suggestOfPair 61 = .ok (.iconst 0, 1) := by decide +kernel
theorem dX0_suggestOfPair_62 : decode cX0_suggestOfPair 62 = .ok (.invokestatic 203, 3) := by decide +kernel
theorem dX0_suggestOfPair_65 : decode cX0_suggestOfPair 65 = .ok (.ifCond .eq 6, 3) := by decide +kernel
theorem dX0_suggestOfPair_68 : decode cX0_suggestOfPair 68 = .ok (.iload 5, 2) := by decide +kernel
theorem dX0_suggestOfPair_70 : decode cX0_suggestOfPair 70 = .ok (.ireturn, 1) := by decide +kernel
theorem dX0_suggestOfPair_71 : decode cX0_suggestOfPair 71 = .ok (.aload_n 0, 1) := by decide +kernel
theorem dX0_suggestOfPair_72 : decode cX0_suggestOfPair 72 = .ok (.aload_n 0, 1) := by decide +kernel
theorem dX0_suggestOfPair_73 : decode cX0_suggestOfPair 73 = .ok (.getfield 16, 3) := by decide +kernel
theorem dX0_suggestOfPair_76 : decode cX0_suggestOfPair 76 = .ok (.iload_n 1, 1) := by decide +kernel
theorem dX0_suggestOfPair_77 : decode cX0_suggestOfPair 77 = .ok (.iaload, 1) := by decide +kernel
theorem dX0_suggestOfPair_78 : decode cX0_suggestOfPair 78 = .ok (.iload_n 2, 1) := by decide +kernel
theorem dX0_suggestOfPair_79 : decode cX0_suggestOfPair 79 = .ok (.iload_n 3, 1) := by decide +kernel
theorem dX0_suggestOfPair_80 : decode cX0_suggestOfPair 80 = .ok (.iload 4, 2) := by decide +kernel
theorem dX0_suggestOfPair_82 : decode cX0_suggestOfPair 82 = .ok (.invokevirtual 180, 3) := by decide +kernel
theorem dX0_suggestOfPair_85 : decode cX0_suggestOfPair 85 = .ok (.istore 7, 2) := by decide +kernel
theorem dX0_suggestOfPair_87 : decode cX0_suggestOfPair 87 = .ok (.aload_n 0, 1) := by decide +kernel
theorem dX0_suggestOfPair_88 : decode cX0_suggestOfPair 88 = .ok (.getfield 9, 3) := by decide +kernel
theorem dX0_suggestOfPair_91 : decode cX0_suggestOfPair 91 = .ok (.iload_n 1, 1) := by decide +kernel
theorem dX0_suggestOfPair_92 : decode cX0_suggestOfPair 92 = .ok (.iaload, 1) := by decide +kernel
theorem dX0_suggestOfPair_93 : decode cX0_suggestOfPair 93 = .ok (.iload 5, 2) := by decide +kernel
theorem dX0_suggestOfPair_95 : decode cX0_suggestOfPair 95 = .ok (.invokestatic 137, 3) := by decide +kernel
theorem dX0_suggestOfPair_98 : decode cX0_suggestOfPair 98 = .ok (.iload 7, 2) := by decide +kernel
theorem dX0_suggestOfPair_100 : decode cX0_suggestOfPair 100 = .ok (.invokestatic 137, 3) := by decide +kernel
theorem dX0_suggestOfPair_103 : decode cX0_suggestOfPair 103 = .ok (.invokestatic 203, 3) := by decide +kernel
theorem dX0_suggestOfPair_106 : decode cX0_suggestOfPair 106 = .ok (.ifCond .eq 8, 3) := by decide +kernel
theorem dX0_suggestOfPair_109 : decode cX0_suggestOfPair 109 = .ok (.iload 5, 2) := by decide +kernel
theorem dX0_suggestOfPair_111 : decode cX0_suggestOfPair 111 = .ok (.goto 5, 3) := by decide +kernel
theorem dX0_suggestOfPair_114 : decode cX0_suggestOfPair 114 = .ok (.iload 7, 2) := by decide +kernel
theorem dX0_suggestOfPair_116 : decode cX0_suggestOfPair 116 = .ok (.ireturn, 1) := by decide +kernel
theorem dX0_takesFirst_0 : decode cX0_takesFirst 0 = .ok (.iload_n 0, 1) := by decide +kernel
theorem dX0_takesFirst_1 : decode cX0_takesFirst 1 = .ok (.tableswitch 67 8 10 #[27, 38, 57], 27) := by decide +kernel
theorem dX0_takesFirst_28 : decode cX0_takesFirst 28 = .ok (.iload_n 1, 1) := by decide +kernel
theorem dX0_takesFirst_29 : decode cX0_takesFirst 29 = .ok (.iload_n 2, 1) := by decide +kernel
theorem dX0_takesFirst_30 : decode cX0_takesFirst 30 = .ok (.if_icmp .lt 7, 3) := by decide +kernel
theorem dX0_takesFirst_33 : decode cX0_takesFirst 33 = .ok (.iconst 1, 1) := by decide +kernel
theorem dX0_takesFirst_34 : decode cX0_takesFirst 34 = .ok (.goto 4, 3) := by decide +kernel
theorem dX0_takesFirst_37 : decode cX0_takesFirst 37 = .ok (.iconst 0, 1) := by decide +kernel
theorem dX0_takesFirst_38 : decode cX0_takesFirst 38 = .ok (.ireturn, 1) := by decide +kernel
theorem dX0_takesFirst_39 : decode cX0_takesFirst 39 = .ok (.iload_n 2, 1) := by decide +kernel
theorem dX0_takesFirst_40 : decode cX0_takesFirst 40 = .ok (.ifCond .eq 12, 3) := by decide +kernel
theorem dX0_takesFirst_43 : decode cX0_takesFirst 43 = .ok (.iload_n 1, 1) := by decide +kernel
theorem dX0_takesFirst_44 : decode cX0_takesFirst 44 = .ok (.ifCond .eq 12, 3) := by decide +kernel
theorem dX0_takesFirst_47 : decode cX0_takesFirst 47 = .ok (.iload_n 1, 1) := by decide +kernel
theorem dX0_takesFirst_48 : decode cX0_takesFirst 48 = .ok (.iload_n 2, 1) := by decide +kernel
theorem dX0_takesFirst_49 : decode cX0_takesFirst 49 = .ok (.if_icmp .gt 7, 3) := by decide +kernel
theorem dX0_takesFirst_52 : decode cX0_takesFirst 52 = .ok (.iconst 1, 1) := by decide +kernel
theorem dX0_takesFirst_53 : decode cX0_takesFirst 53 = .ok (.goto 4, 3) := by decide +kernel
theorem dX0_takesFirst_56 : decode cX0_takesFirst 56 = .ok (.iconst 0, 1) := by decide +kernel
theorem dX0_takesFirst_57 : decode cX0_takesFirst 57 = .ok (.ireturn, 1) := by decide +kernel
theorem dX0_takesFirst_58 : decode cX0_takesFirst 58 = .ok (.iload_n 1, 1) := by decide +kernel
theorem dX0_takesFirst_59 : decode cX0_takesFirst 59 = .ok (.ifCond .eq 7, 3) := by decide +kernel
theorem dX0_takesFirst_62 : decode cX0_takesFirst 62 = .ok (.iconst 1, 1) := by decide +kernel
theorem dX0_takesFirst_63 : decode cX0_takesFirst 63 = .ok (.goto 4, 3) := by decide +kernel
theorem dX0_takesFirst_66 : decode cX0_takesFirst 66 = .ok (.iconst 0, 1) := by decide +kernel
theorem dX0_takesFirst_67 : decode cX0_takesFirst 67 = .ok (.ireturn, 1) := by decide +kernel
theorem dX0_takesFirst_68 : decode cX0_takesFirst 68 = .ok (.iload_n 1, 1) := by decide +kernel
theorem dX0_takesFirst_69 : decode cX0_takesFirst 69 = .ok (.iconst 2, 1) := by decide +kernel
theorem dX0_takesFirst_70 : decode cX0_takesFirst 70 = .ok (.if_icmp .lt 7, 3) := by decide +kernel
theorem dX0_takesFirst_73 : decode cX0_takesFirst 73 = .ok (.iconst 1, 1) := by decide +kernel
theorem dX0_takesFirst_74 : decode cX0_takesFirst 74 = .ok (.goto 4, 3) := by decide +kernel
theorem dX0_takesFirst_77 : decode cX0_takesFirst 77 = .ok (.iconst 0, 1) := by decide +kernel
theorem dX0_takesFirst_78 : decode cX0_takesFirst 78 = .ok (.ireturn, 1) := by decide +kernel
theorem dX0_nextEntry_0 : decode cX0_nextEntry 0 = .ok (.aload_n 0, 1) := by decide +kernel
theorem dX0_nextEntry_1 : decode cX0_nextEntry 1 = .ok (.getfield 35, 3) := by decide +kernel
theorem dX0_nextEntry_4 : decode cX0_nextEntry 4 = .ok (.aload_n 0, 1) := by decide +kernel
theorem dX0_nextEntry_5 : decode cX0_nextEntry 5 = .ok (.getfield 13, 3) := by decide +kernel
theorem dX0_nextEntry_8 : decode cX0_nextEntry 8 = .ok (.iload_n 1, 1) := by decide +kernel
theorem dX0_nextEntry_9 : decode cX0_nextEntry 9 = .ok (.iaload, 1) := by decide +kernel
theorem dX0_nextEntry_10 : decode cX0_nextEntry 10 = .ok (.aload_n 0, 1) := by decide +kernel
theorem dX0_nextEntry_11 : decode cX0_nextEntry 11 = .ok (.getfield 29, 3) := by decide +kernel
theorem dX0_nextEntry_14 : decode cX0_nextEntry 14 = .ok (.iload_n 1, 1) := by decide +kernel
theorem dX0_nextEntry_15 : decode cX0_nextEntry 15 = .ok (.iaload, 1) := by decide +kernel
theorem dX0_nextEntry_16 : decode cX0_nextEntry 16 = .ok (.iload_n 2, 1) := by decide +kernel
theorem dX0_nextEntry_17 : decode cX0_nextEntry 17 = .ok (.invokestatic 66, 3) := by decide +kernel
theorem dX0_nextEntry_20 : decode cX0_nextEntry 20 = .ok (.iaload, 1) := by decide +kernel
theorem dX0_nextEntry_21 : decode cX0_nextEntry 21 = .ok (.ireturn, 1) := by decide +kernel
theorem dX0_suggestOfEntry_0 : decode cX0_suggestOfEntry 0 = .ok (.iload_n 0, 1) := by decide +kernel
theorem dX0_suggestOfEntry_1 : decode cX0_suggestOfEntry 1 = .ok (.iconst 5, 1) := by decide +kernel
theorem dX0_suggestOfEntry_2 : decode cX0_suggestOfEntry 2 = .ok (.if_icmp .ne 5, 3) := by decide +kernel
theorem dX0_suggestOfEntry_5 : decode cX0_suggestOfEntry 5 = .ok (.iconst 0, 1) := by decide +kernel
theorem dX0_suggestOfEntry_6 : decode cX0_suggestOfEntry 6 = .ok (.ireturn, 1) := by decide +kernel
theorem dX0_suggestOfEntry_7 : decode cX0_suggestOfEntry 7 = .ok (.iload_n 0, 1) := by decide +kernel
theorem dX0_suggestOfEntry_8 : decode cX0_suggestOfEntry 8 = .ok (.iconst 4, 1) := by decide +kernel
theorem dX0_suggestOfEntry_9 : decode cX0_suggestOfEntry 9 = .ok (.if_icmp .eq 7, 3) := by decide +kernel
theorem dX0_suggestOfEntry_12 : decode cX0_suggestOfEntry 12 = .ok (.iconst 1, 1) := by decide +kernel
theorem dX0_suggestOfEntry_13 : decode cX0_suggestOfEntry 13 = .ok (.goto 4, 3) := by decide +kernel
theorem dX0_suggestOfEntry_16 : decode cX0_suggestOfEntry 16 = .ok (.iconst 0, 1) := by decide +kernel
theorem dX0_suggestOfEntry_17 : decode cX0_suggestOfEntry 17 = .ok (.invokestatic 206, 3) := by decide +kernel
theorem dX0_suggestOfEntry_20 : decode cX0_suggestOfEntry 20 = .ok (.ireturn, 1) := by decide +kernel
theorem dX0_suggestInSet_0 : decode cX0_suggestInSet 0 = .ok (.aload_n 0, 1) := by decide +kernel
theorem dX0_suggestInSet_1 : decode cX0_suggestInSet 1 = .ok (.getfield 9, 3) := by decide +kernel
theorem dX0_suggestInSet_4 : decode cX0_suggestInSet 4 = .ok (.iload_n 1, 1) := by decide +kernel
theorem dX0_suggestInSet_5 : decode cX0_suggestInSet 5 = .ok (.iaload, 1) := by decide +kernel
theorem dX0_suggestInSet_6 : decode cX0_suggestInSet 6 = .ok (.tableswitch 130 0 7 #[46, 48, 50, 52, 76, 82, 130, 101], 46) := by decide +kernel
theorem dX0_suggestInSet_52 : decode cX0_suggestInSet 52 = .ok (.iconst 1, 1) := by decide +kernel
theorem dX0_suggestInSet_53 : decode cX0_suggestInSet 53 = .ok (.ireturn, 1) := by decide +kernel
theorem dX0_suggestInSet_54 : decode cX0_suggestInSet 54 = .ok (.iconst 4, 1) := by decide +kernel
theorem dX0_suggestInSet_55 : decode cX0_suggestInSet 55 = .ok (.ireturn, 1) := by decide +kernel
theorem dX0_suggestInSet_56 : decode cX0_suggestInSet 56 = .ok (.iconst 5, 1) := by decide +kernel
theorem dX0_suggestInSet_57 : decode cX0_suggestInSet 57 = .ok (.ireturn, 1) := by decide +kernel
theorem dX0_suggestInSet_58 : decode cX0_suggestInSet 58 = .ok (.aload_n 0, 1) := by decide +kernel
theorem dX0_suggestInSet_59 : decode cX0_suggestInSet 59 = .ok (.getfield 29, 3) := by decide +kernel
theorem dX0_suggestInSet_62 : decode cX0_suggestInSet 62 = .ok (.iload_n 1, 1) := by decide +kernel
theorem dX0_suggestInSet_63 : decode cX0_suggestInSet 63 = .ok (.iaload, 1) := by decide +kernel
theorem dX0_suggestInSet_64 : decode cX0_suggestInSet 64 = .ok (.aload_n 0, 1) := by decide +kernel
theorem dX0_suggestInSet_65 : decode cX0_suggestInSet 65 = .ok (.getfield 16, 3) := by decide +kernel
theorem dX0_suggestInSet_68 : decode cX0_suggestInSet 68 = .ok (.iload_n 1, 1) := by decide +kernel
theorem dX0_suggestInSet_69 : decode cX0_suggestInSet 69 = .ok (.iaload, 1) := by decide +kernel
theorem dX0_suggestInSet_70 : decode cX0_suggestInSet 70 = .ok (.if_icmp .ge 7, 3) := by decide +kernel
theorem dX0_suggestInSet_73 : decode cX0_suggestInSet 73 = .ok (.iconst 1, 1) := by decide +kernel
theorem dX0_suggestInSet_74 : decode cX0_suggestInSet 74 = .ok (.goto 4, 3) := by decide +kernel
theorem dX0_suggestInSet_77 : decode cX0_suggestInSet 77 = .ok (.iconst 0, 1) := by decide +kernel
theorem dX0_suggestInSet_78 : decode cX0_suggestInSet 78 = .ok (.invokestatic 206, 3) := by decide +kernel
theorem dX0_suggestInSet_81 : decode cX0_suggestInSet 81 = .ok (.ireturn, 1) := by decide +kernel
theorem dX0_suggestInSet_82 : decode cX0_suggestInSet 82 = .ok (.iconst 3, 1) := by decide +kernel
theorem dX0_suggestInSet_83 : decode cX0_suggestInSet 83 = .ok (.iload_n 1, 1) := by decide +kernel
theorem dX0_suggestInSet_84 : decode cX0_suggestInSet 84 = .ok (.invokestatic 210, 3) := by decide +kernel
theorem dX0_suggestInSet_87 : decode cX0_suggestInSet 87 = .ok (.ireturn, 1) := by decide +kernel
theorem dX0_suggestInSet_88 : decode cX0_suggestInSet 88 = .ok (.aload_n 0, 1) := by decide +kernel
theorem dX0_suggestInSet_89 : decode cX0_suggestInSet 89 = .ok (.getfield 32, 3) := by decide +kernel
theorem dX0_suggestInSet_92 : decode cX0_suggestInSet 92 = .ok (.iload_n 1, 1) := by decide +kernel
theorem dX0_suggestInSet_93 : decode cX0_suggestInSet 93 = .ok (.baload, 1) := by decide +kernel
theorem dX0_suggestInSet_94 : decode cX0_suggestInSet 94 = .ok (.ifCond .eq 7, 3) := by decide +kernel
theorem dX0_suggestInSet_97 : decode cX0_suggestInSet 97 = .ok (.iconst 0, 1) := by decide +kernel
theorem dX0_suggestInSet_98 : decode cX0_suggestInSet 98 = .ok (.goto 8, 3) := by decide +kernel
theorem dX0_suggestInSet_101 : decode cX0_suggestInSet 101 = .ok (.iconst 2, 1) := by decide +kernel
theorem dX0_suggestInSet_102 : decode cX0_suggestInSet 102 = .ok (.iload_n 1, 1) := by decide +kernel
theorem dX0_suggestInSet_103 : decode cX0_suggestInSet 103 = .ok (.invokestatic 210, 3) := by decide +kernel
theorem dX0_suggestInSet_106 : decode cX0_suggestInSet 106 = .ok (.ireturn, 1) := by decide +kernel
theorem dX0_suggestInSet_107 : decode cX0_suggestInSet 107 = .ok (.aload_n 0, 1) := by decide +kernel
theorem dX0_suggestInSet_108 : decode cX0_suggestInSet 108 = .ok (.getfield 16, 3) := by decide +kernel
theorem dX0_suggestInSet_111 : decode cX0_suggestInSet 111 = .ok (.iload_n 1, 1) := by decide +kernel
theorem dX0_suggestInSet_112 : decode cX0_suggestInSet 112 = .ok (.iaload, 1) := by decide +kernel
theorem dX0_suggestInSet_113 : decode cX0_suggestInSet 113 = .ok (.iload_n 2, 1) := by decide +kernel
theorem dX0_suggestInSet_114 : decode cX0_suggestInSet 114 = .ok (.if_icmp .gt 17, 3) := by decide +kernel
theorem dX0_suggestInSet_117 : decode cX0_suggestInSet 117 = .ok (.iload_n 2, 1) := by decide +kernel
theorem dX0_suggestInSet_118 : decode cX0_suggestInSet 118 = .ok (.aload_n 0, 1) := by decide +kernel
theorem dX0_suggestInSet_119 : decode cX0_suggestInSet 119 = .ok (.getfield 19, 3) := by decide +kernel
theorem dX0_suggestInSet_122 : decode cX0_suggestInSet 122 = .ok (.iload_n 1, 1) := by decide +kernel
theorem dX0_suggestInSet_123 : decode cX0_suggestInSet 123 = .ok (.iaload, 1) := by decide +kernel
theorem dX0_suggestInSet_124 : decode cX0_suggestInSet 124 = .ok (.if_icmp .gt 7, 3) := by decide +kernel
theorem dX0_suggestInSet_127 : decode cX0_suggestInSet 127 = .ok (.iconst 1, 1) := by decide +kernel
theorem dX0_suggestInSet_128 : decode cX0_suggestInSet 128 = .ok (.goto 4, 3) := by decide +kernel
theorem dX0_suggestInSet_131 : decode cX0_suggestInSet 131 = .ok (.iconst 0, 1) := by decide +kernel
theorem dX0_suggestInSet_132 : decode cX0_suggestInSet 132 = .ok (.invokestatic 206, 3) := by decide +kernel
theorem dX0_suggestInSet_135 : decode cX0_suggestInSet 135 = .ok (.ireturn, 1) := by decide +kernel
theorem dX0_suggestInSet_136 : decode cX0_suggestInSet 136 = .ok (.iconst 0, 1) := by decide +kernel
theorem dX0_suggestInSet_137 : decode cX0_suggestInSet 137 = .ok (.ireturn, 1) := by decide +kernel
theorem dX0_okOnlyIf_0 : decode cX0_okOnlyIf 0 = .ok (.iload_n 0, 1) := by decide +kernel
theorem dX0_okOnlyIf_1 : decode cX0_okOnlyIf 1 = .ok (.ifCond .eq 7, 3) := by decide +kernel
theorem dX0_okOnlyIf_4 : decode cX0_okOnlyIf 4 = .ok (.iconst 1, 1) := by decide +kernel
theorem dX0_okOnlyIf_5 : decode cX0_okOnlyIf 5 = .ok (.goto 4, 3) := by decide +kernel
theorem dX0_okOnlyIf_8 : decode cX0_okOnlyIf 8 = .ok (.iconst 4, 1) := by decide +kernel
theorem dX0_okOnlyIf_9 : decode cX0_okOnlyIf 9 = .ok (.ireturn, 1) := by decide +kernel
theorem dX0_addNote_0 : decode cX0_addNote 0 = .ok (.aload_n 0, 1) := by decide +kernel
theorem dX0_addNote_1 : decode cX0_addNote 1 = .ok (.getfield 41, 3) := by decide +kernel
theorem dX0_addNote_4 : decode cX0_addNote 4 = .ok (.aload_n 0, 1) := by decide +kernel
theorem dX0_addNote_5 : decode cX0_addNote 5 = .ok (.getfield 148, 3) := by decide +kernel
theorem dX0_addNote_8 : decode cX0_addNote 8 = .ok (.bipush 16, 2) := by decide +kernel
theorem dX0_addNote_10 : decode cX0_addNote 10 = .ok (.invokestatic 151, 3) := by decide +kernel
theorem dX0_addNote_13 : decode cX0_addNote 13 = .ok (.iload_n 1, 1) := by decide +kernel
theorem dX0_addNote_14 : decode cX0_addNote 14 = .ok (.iastore, 1) := by decide +kernel
theorem dX0_addNote_15 : decode cX0_addNote 15 = .ok (.aload_n 0, 1) := by decide +kernel
theorem dX0_addNote_16 : decode cX0_addNote 16 = .ok (.dup, 1) := by decide +kernel
theorem dX0_addNote_17 : decode cX0_addNote 17 = .ok (.getfield 148, 3) := by decide +kernel
theorem dX0_addNote_20 : decode cX0_addNote 20 = .ok (.iconst 1, 1) := by decide +kernel
theorem dX0_addNote_21 : decode cX0_addNote 21 = .ok (.iadd, 1) := by decide +kernel
theorem dX0_addNote_22 : decode cX0_addNote 22 = .ok (.putfield 148, 3) := by decide +kernel
theorem dX0_addNote_25 : decode cX0_addNote 25 = .ok (.return_, 1) := by decide +kernel
theorem dX0_accept_0 : decode cX0_accept 0 = .ok (.aload_n 0, 1) := by decide +kernel
theorem dX0_accept_1 : decode cX0_accept 1 = .ok (.getfield 9, 3) := by decide +kernel
theorem dX0_accept_4 : decode cX0_accept 4 = .ok (.iload_n 1, 1) := by decide +kernel
theorem dX0_accept_5 : decode cX0_accept 5 = .ok (.iaload, 1) := by decide +kernel
theorem dX0_accept_6 : decode cX0_accept 6 = .ok (.tableswitch 243 3 14 #[62, 243, 243, 88, 243, 97, 124, 124, 124, 200, 228, 228], 62) := by decide +kernel
theorem dX0_accept_68 : decode cX0_accept 68 = .ok (.aload_n 0, 1) := by decide +kernel
theorem dX0_accept_69 : decode cX0_accept 69 = .ok (.getfield 13, 3) := by decide +kernel
theorem dX0_accept_72 : decode cX0_accept 72 = .ok (.iload_n 1, 1) := by decide +kernel
theorem dX0_accept_73 : decode cX0_accept 73 = .ok (.iaload, 1) := by decide +kernel
theorem dX0_accept_74 : decode cX0_accept 74 = .ok (.iload_n 2, 1) := by decide +kernel
theorem dX0_accept_75 : decode cX0_accept 75 = .ok (.invokestatic 187, 3) := by decide +kernel
theorem dX0_accept_78 : decode cX0_accept 78 = .ok (.ifCond .eq 171, 3) := by decide +kernel
theorem dX0_accept_81 : decode cX0_accept 81 = .ok (.aload_n 0, 1) := by decide +kernel
theorem dX0_accept_82 : decode cX0_accept 82 = .ok (.getfield 29, 3) := by decide +kernel
theorem dX0_accept_85 : decode cX0_accept 85 = .ok (.iload_n 1, 1) := by decide +kernel
theorem dX0_accept_86 : decode cX0_accept 86 = .ok (.dup2, 1) := by decide +kernel
theorem dX0_accept_87 : decode cX0_accept 87 = .ok (.iaload, 1) := by decide +kernel
theorem dX0_accept_88 : decode cX0_accept 88 = .ok (.iconst 1, 1) := by decide +kernel
theorem dX0_accept_89 : decode cX0_accept 89 = .ok (.iadd, 1) := by decide +kernel
theorem dX0_accept_90 : decode cX0_accept 90 = .ok (.iastore, 1) := by decide +kernel
theorem dX0_accept_91 : decode cX0_accept 91 = .ok (.goto 158, 3) := by decide +kernel
theorem dX0_accept_94 : decode cX0_accept 94 = .ok (.aload_n 0, 1) := by decide +kernel
theorem dX0_accept_95 : decode cX0_accept 95 = .ok (.iload_n 1, 1) := by decide +kernel
theorem dX0_accept_96 : decode cX0_accept 96 = .ok (.iload_n 2, 1) := by decide +kernel
theorem dX0_accept_97 : decode cX0_accept 97 = .ok (.invokevirtual 213, 3) := by decide +kernel
theorem dX0_accept_100 : decode cX0_accept 100 = .ok (.goto 149, 3) := by decide +kernel
theorem dX0_accept_103 : decode cX0_accept 103 = .ok (.aload_n 0, 1) := by decide +kernel
theorem dX0_accept_104 : decode cX0_accept 104 = .ok (.aload_n 0, 1) := by decide +kernel
theorem dX0_accept_105 : decode cX0_accept 105 = .ok (.getfield 13, 3) := by decide +kernel
theorem dX0_accept_108 : decode cX0_accept 108 = .ok (.iload_n 1, 1) := by decide +kernel
theorem dX0_accept_109 : decode cX0_accept 109 = .ok (.iaload, 1) := by decide +kernel
theorem dX0_accept_110 : decode cX0_accept 110 = .ok (.iload_n 2, 1) := by decide +kernel
theorem dX0_accept_111 : decode cX0_accept 111 = .ok (.iload_n 3, 1) := by decide +kernel
theorem dX0_accept_112 : decode cX0_accept 112 = .ok (.invokevirtual 217, 3) := by decide +kernel
theorem dX0_accept_115 : decode cX0_accept 115 = .ok (.aload_n 0, 1) := by decide +kernel
theorem dX0_accept_116 : decode cX0_accept 116 = .ok (.aload_n 0, 1) := by decide +kernel
theorem dX0_accept_117 : decode cX0_accept 117 = .ok (.getfield 16, 3) := by decide +kernel
theorem dX0_accept_120 : decode cX0_accept 120 = .ok (.iload_n 1, 1) := by decide +kernel
theorem dX0_accept_121 : decode cX0_accept 121 = .ok (.iaload, 1) := by decide +kernel
theorem dX0_accept_122 : decode cX0_accept 122 = .ok (.iload_n 2, 1) := by decide +kernel
theorem dX0_accept_123 : decode cX0_accept 123 = .ok (.iload_n 3, 1) := by decide +kernel
theorem dX0_accept_124 : decode cX0_accept 124 = .ok (.invokevirtual 217, 3) := by decide +kernel
theorem dX0_accept_127 : decode cX0_accept 127 = .ok (.goto 122, 3) := by decide +kernel
theorem dX0_accept_130 : decode cX0_accept 130 = .ok (.aload_n 0, 1) := by decide +kernel
theorem dX0_accept_131 : decode cX0_accept 131 = .ok (.aload_n 0, 1) := by decide +kernel
theorem dX0_accept_132 : decode cX0_accept 132 = .ok (.getfield 13, 3) := by decide +kernel
theorem dX0_accept_135 : decode cX0_accept 135 = .ok (.iload_n 1, 1) := by decide +kernel
theorem dX0_accept_136 : decode cX0_accept 136 = .ok (.iaload, 1) := by decide +kernel
theorem dX0_accept_137 : decode cX0_accept 137 = .ok (.iload_n 2, 1) := by decide +kernel
theorem dX0_accept_138 : decode cX0_accept 138 = .ok (.iload_n 3, 1) := by decide +kernel
theorem dX0_accept_139 : decode cX0_accept 139 = .ok (.iconst 0, 1) := by decide +kernel
theorem dX0_accept_140 : decode cX0_accept 140 = .ok (.invokevirtual 180, 3) := by decide +kernel
theorem dX0_accept_143 : decode cX0_accept 143 = .ok (.invokestatic 137, 3) := by decide +kernel
theorem dX0_accept_146 : decode cX0_accept 146 = .ok (.istore 4, 2) := by decide +kernel
theorem dX0_accept_148 : decode cX0_accept 148 = .ok (.aload_n 0, 1) := by decide +kernel
theorem dX0_accept_149 : decode cX0_accept 149 = .ok (.aload_n 0, 1) := by decide +kernel
theorem dX0_accept_150 : decode cX0_accept 150 = .ok (.getfield 16, 3) := by decide +kernel
theorem dX0_accept_153 : decode cX0_accept 153 = .ok (.iload_n 1, 1) := by decide +kernel
theorem dX0_accept_154 : decode cX0_accept 154 = .ok (.iaload, 1) := by decide +kernel
theorem dX0_accept_155 : decode cX0_accept 155 = .ok (.iload_n 2, 1) := by decide +kernel
theorem dX0_accept_156 : decode cX0_accept 156 = .ok (.iload_n 3, 1) := by decide +kernel
theorem dX0_accept_157 : decode cX0_accept 157 = .ok (.iconst 0, 1) := by decide +kernel
theorem dX0_accept_158 : decode cX0_accept 158 = .ok (.invokevirtual 180, 3) := by decide +kernel
theorem dX0_accept_161 : decode cX0_accept 161 = .ok (.invokestatic 137, 3) := by decide +kernel
theorem dX0_accept_164 : decode cX0_accept 164 = .ok (.istore 5, 2) := by decide +kernel
theorem dX0_accept_166 : decode cX0_accept 166 = .ok (.aload_n 0, 1) := by decide +kernel
theorem dX0_accept_167 : decode cX0_accept 167 = .ok (.aload_n 0, 1) := by decide +kernel
theorem dX0_accept_168 : decode cX0_accept 168 = .ok (.getfield 9, 3) := by decide +kernel
theorem dX0_accept_171 : decode cX0_accept 171 = .ok (.iload_n 1, 1) := by decide +kernel
theorem dX0_accept_172 : decode cX0_accept 172 = .ok (.iaload, 1) := by decide +kernel
theorem dX0_accept_173 : decode cX0_accept 173 = .ok (.iload 4, 2) := by decide +kernel
theorem dX0_accept_175 : decode cX0_accept 175 = .ok (.iload 5, 2) := by decide +kernel
theorem dX0_accept_177 : decode cX0_accept 177 = .ok (.invokestatic 203, 3) := by decide +kernel
theorem dX0_accept_180 : decode cX0_accept 180 = .ok (.ifCond .eq 12, 3) := by decide +kernel
theorem dX0_accept_183 : decode cX0_accept 183 = .ok (.aload_n 0, 1) := by decide +kernel
theorem dX0_accept_184 : decode cX0_accept 184 = .ok (.getfield 13, 3) := by decide +kernel
theorem dX0_accept_187 : decode cX0_accept 187 = .ok (.iload_n 1, 1) := by decide +kernel
theorem dX0_accept_188 : decode cX0_accept 188 = .ok (.iaload, 1) := by decide +kernel
theorem dX0_accept_189 : decode cX0_accept 189 = .ok (.goto 9, 3) := by decide +kernel
theorem dX0_accept_192 : decode cX0_accept 192 = .ok (.aload_n 0, 1) := by decide +kernel
theorem dX0_accept_193 : decode cX0_accept 193 = .ok (.getfield 16, 3) := by decide +kernel
theorem dX0_accept_196 : decode cX0_accept 196 = .ok (.iload_n 1, 1) := by decide +kernel
theorem dX0_accept_197 : decode cX0_accept 197 = .ok (.iaload, 1) := by decide +kernel
theorem dX0_accept_198 : decode cX0_accept 198 = .ok (.iload_n 2, 1) := by decide +kernel
theorem dX0_accept_199 : decode cX0_accept 199 = .ok (.iload_n 3, 1) := by decide +kernel
theorem dX0_accept_200 : decode cX0_accept 200 = .ok (.invokevirtual 217, 3) := by decide +kernel
theorem dX0_accept_203 : decode cX0_accept 203 = .ok (.goto 46, 3) := by decide +kernel
theorem dX0_accept_206 : decode cX0_accept 206 = .ok (.aload_n 0, 1) := by decide +kernel
theorem dX0_accept_207 : decode cX0_accept 207 = .ok (.getfield 13, 3) := by decide +kernel
theorem dX0_accept_210 : decode cX0_accept 210 = .ok (.iload_n 1, 1) := by decide +kernel
theorem dX0_accept_211 : decode cX0_accept 211 = .ok (.iaload, 1) := by decide +kernel
theorem dX0_accept_212 : decode cX0_accept 212 = .ok (.iload_n 2, 1) := by decide +kernel
theorem dX0_accept_213 : decode cX0_accept 213 = .ok (.invokestatic 187, 3) := by decide +kernel
theorem dX0_accept_216 : decode cX0_accept 216 = .ok (.ifCond .eq 33, 3) := by decide +kernel
theorem dX0_accept_219 : decode cX0_accept 219 = .ok (.aload_n 0, 1) := by decide +kernel
theorem dX0_accept_220 : decode cX0_accept 220 = .ok (.aload_n 0, 1) := by decide +kernel
theorem dX0_accept_221 : decode cX0_accept 221 = .ok (.getfield 16, 3) := by decide +kernel
theorem dX0_accept_224 : decode cX0_accept 224 = .ok (.iload_n 1, 1) := by decide +kernel
theorem dX0_accept_225 : decode cX0_accept 225 = .ok (.iaload, 1) := by decide +kernel
theorem dX0_accept_226 : decode cX0_accept 226 = .ok (.iload_n 2, 1) := by decide +kernel
theorem dX0_accept_227 : decode cX0_accept 227 = .ok (.iload_n 3, 1) := by decide +kernel
theorem dX0_accept_228 : decode cX0_accept 228 = .ok (.invokevirtual 217, 3) := by decide +kernel
theorem dX0_accept_231 : decode cX0_accept 231 = .ok (.goto 18, 3) := by decide +kernel
theorem dX0_accept_234 : decode cX0_accept 234 = .ok (.aload_n 0, 1) := by decide +kernel
theorem dX0_accept_235 : decode cX0_accept 235 = .ok (.aload_n 0, 1) := by decide +kernel
theorem dX0_accept_236 : decode cX0_accept 236 = .ok (.getfield 13, 3) := by decide +kernel
theorem dX0_accept_239 : decode cX0_accept 239 = .ok (.iload_n 1, 1) := by decide +kernel
theorem dX0_accept_240 : decode cX0_accept 240 = .ok (.iaload, 1) := by decide +kernel
theorem dX0_accept_241 : decode cX0_accept 241 = .ok (.iload_n 2, 1) := by decide +kernel
theorem dX0_accept_242 : decode cX0_accept 242 = .ok (.iload_n 3, 1) := by decide +kernel
theorem dX0_accept_243 : decode cX0_accept 243 = .ok (.invokevirtual 217, 3) := by decide +kernel
theorem dX0_accept_246 : decode cX0_accept 246 = .ok (.goto 3, 3) := by decide +kernel
theorem dX0_accept_249 : decode cX0_accept 249 = .ok (.return_, 1) := by decide +kernel
theorem dX0_step_0 : decode cX0_step 0 = .ok (.aload_n 0, 1) := by decide +kernel
theorem dX0_step_1 : decode cX0_step 1 = .ok (.iload_n 1, 1) := by decide +kernel
theorem dX0_step_2 : decode cX0_step 2 = .ok (.iload_n 2, 1) := by decide +kernel
theorem dX0_step_3 : decode cX0_step 3 = .ok (.invokevirtual 194, 3) := by decide +kernel
theorem dX0_step_6 : decode cX0_step 6 = .ok (.istore_n 3, 1) := by decide +kernel
theorem dX0_step_7 : decode cX0_step 7 = .ok (.iload_n 3, 1) := by decide +kernel
theorem dX0_step_8 : decode cX0_step 8 = .ok (.iconst 4, 1) := by decide +kernel
theorem dX0_step_9 : decode cX0_step 9 = .ok (.invokestatic 52, 3) := by decide +kernel
theorem dX0_step_12 : decode cX0_step 12 = .ok (.ifCond .eq 10, 3) := by decide +kernel
theorem dX0_step_15 : decode cX0_step 15 = .ok (.aload_n 0, 1) := by decide +kernel
theorem dX0_step_16 : decode cX0_step 16 = .ok (.getfield 29, 3) := by decide +kernel
theorem dX0_step_19 : decode cX0_step 19 = .ok (.iload_n 1, 1) := by decide +kernel
theorem dX0_step_20 : decode cX0_step 20 = .ok (.iload_n 3, 1) := by decide +kernel
theorem dX0_step_21 : decode cX0_step 21 = .ok (.iastore, 1) := by decide +kernel
theorem dX0_step_22 : decode cX0_step 22 = .ok (.return_, 1) := by decide +kernel
theorem dX0_actAtDepth_0 : decode cX0_actAtDepth 0 = .ok (.aload_n 0, 1) := by decide +kernel
theorem dX0_actAtDepth_1 : decode cX0_actAtDepth 1 = .ok (.getfield 44, 3) := by decide +kernel
theorem dX0_actAtDepth_4 : decode cX0_actAtDepth 4 = .ok (.iconst (-1), 1) := by decide +kernel
theorem dX0_actAtDepth_5 : decode cX0_actAtDepth 5 = .ok (.if_icmp .ne 11, 3) := by decide +kernel
theorem dX0_actAtDepth_8 : decode cX0_actAtDepth 8 = .ok (.aload_n 0, 1) := by decide +kernel
theorem dX0_actAtDepth_9 : decode cX0_actAtDepth 9 = .ok (.iload_n 1, 1) := by decide +kernel
theorem dX0_actAtDepth_10 : decode cX0_actAtDepth 10 = .ok (.iload_n 2, 1) := by decide +kernel
theorem dX0_actAtDepth_11 : decode cX0_actAtDepth 11 = .ok (.invokevirtual 221, 3) := by decide +kernel
theorem dX0_actAtDepth_14 : decode cX0_actAtDepth 14 = .ok (.iconst 0, 1) := by decide +kernel
theorem dX0_actAtDepth_15 : decode cX0_actAtDepth 15 = .ok (.ireturn, 1) := by decide +kernel
theorem dX0_actAtDepth_16 : decode cX0_actAtDepth 16 = .ok (.iconst 0, 1) := by decide +kernel
theorem dX0_actAtDepth_17 : decode cX0_actAtDepth 17 = .ok (.istore 4, 2) := by decide +kernel
theorem dX0_actAtDepth_19 : decode cX0_actAtDepth 19 = .ok (.iload 4, 2) := by decide +kernel
theorem dX0_actAtDepth_21 : decode cX0_actAtDepth 21 = .ok (.bipush 40, 2) := by decide +kernel
theorem dX0_actAtDepth_23 : decode cX0_actAtDepth 23 = .ok (.if_icmp .gt 93, 3) := by decide +kernel
theorem dX0_actAtDepth_26 : decode cX0_actAtDepth 26 = .ok (.aload_n 0, 1) := by decide +kernel
theorem dX0_actAtDepth_27 : decode cX0_actAtDepth 27 = .ok (.aload_n 0, 1) := by decide +kernel
theorem dX0_actAtDepth_28 : decode cX0_actAtDepth 28 = .ok (.getfield 44, 3) := by decide +kernel
theorem dX0_actAtDepth_31 : decode cX0_actAtDepth 31 = .ok (.iload_n 1, 1) := by decide +kernel
theorem dX0_actAtDepth_32 : decode cX0_actAtDepth 32 = .ok (.iload_n 2, 1) := by decide +kernel
theorem dX0_actAtDepth_33 : decode cX0_actAtDepth 33 = .ok (.iconst 1, 1) := by decide +kernel
theorem dX0_actAtDepth_34 : decode cX0_actAtDepth 34 = .ok (.invokevirtual 180, 3) := by decide +kernel
theorem dX0_actAtDepth_37 : decode cX0_actAtDepth 37 = .ok (.istore 5, 2) := by decide +kernel
theorem dX0_actAtDepth_39 : decode cX0_actAtDepth 39 = .ok (.iload 5, 2) := by decide +kernel
theorem dX0_actAtDepth_41 : decode cX0_actAtDepth 41 = .ok (.invokestatic 137, 3) := by decide +kernel
theorem dX0_actAtDepth_44 : decode cX0_actAtDepth 44 = .ok (.iconst 2, 1) := by decide +kernel
theorem dX0_actAtDepth_45 : decode cX0_actAtDepth 45 = .ok (.if_icmp .eq 12, 3) := by decide +kernel
theorem dX0_actAtDepth_48 : decode cX0_actAtDepth 48 = .ok (.aload_n 0, 1) := by decide +kernel
theorem dX0_actAtDepth_49 : decode cX0_actAtDepth 49 = .ok (.iload 5, 2) := by decide +kernel
theorem dX0_actAtDepth_51 : decode cX0_actAtDepth 51 = .ok (.iload_n 1, 1) := by decide +kernel
theorem dX0_actAtDepth_52 : decode cX0_actAtDepth 52 = .ok (.iload_n 2, 1) := by decide +kernel
theorem dX0_actAtDepth_53 : decode cX0_actAtDepth 53 = .ok (.invokevirtual 224, 3) := by decide +kernel
theorem dX0_actAtDepth_56 : decode cX0_actAtDepth 56 = .ok (.ireturn, 1) := by decide +kernel
theorem dX0_actAtDepth_57 : decode cX0_actAtDepth 57 = .ok (.iload_n 3, 1) := by decide +kernel
theorem dX0_actAtDepth_58 : decode cX0_actAtDepth 58 = .ok (.iconst 5, 1) := by decide +kernel
theorem dX0_actAtDepth_59 : decode cX0_actAtDepth 59 = .ok (.if_icmp .lt 5, 3) := by decide +kernel
theorem dX0_actAtDepth_62 : decode cX0_actAtDepth 62 = .ok (.iconst 3, 1) := by decide +kernel
theorem dX0_actAtDepth_63 : decode cX0_actAtDepth 63 = .ok (.ireturn, 1) := by decide +kernel
theorem dX0_actAtDepth_64 : decode cX0_actAtDepth 64 = .ok (.iload 5, 2) := by decide +kernel
theorem dX0_actAtDepth_66 : decode cX0_actAtDepth 66 = .ok (.invokestatic 145, 3) := by decide +kernel
theorem dX0_actAtDepth_69 : decode cX0_actAtDepth 69 = .ok (.istore 6, 2) := by decide +kernel
theorem dX0_actAtDepth_71 : decode cX0_actAtDepth 71 = .ok (.aload_n 0, 1) := by decide +kernel
theorem dX0_actAtDepth_72 : decode cX0_actAtDepth 72 = .ok (.getfield 32, 3) := by decide +kernel
theorem dX0_actAtDepth_75 : decode cX0_actAtDepth 75 = .ok (.iload 6, 2) := by decide +kernel
theorem dX0_actAtDepth_77 : decode cX0_actAtDepth 77 = .ok (.iconst 1, 1) := by decide +kernel
theorem dX0_actAtDepth_78 : decode cX0_actAtDepth 78 = .ok (.bastore, 1) := by decide +kernel
theorem dX0_actAtDepth_79 : decode cX0_actAtDepth 79 = .ok (.aload_n 0, 1) := by decide +kernel
theorem dX0_actAtDepth_80 : decode cX0_actAtDepth 80 = .ok (.aload_n 0, 1) := by decide +kernel
theorem dX0_actAtDepth_81 : decode cX0_actAtDepth 81 = .ok (.getfield 16, 3) := by decide +kernel
theorem dX0_actAtDepth_84 : decode cX0_actAtDepth 84 = .ok (.iload 6, 2) := by decide +kernel
theorem dX0_actAtDepth_86 : decode cX0_actAtDepth 86 = .ok (.iaload, 1) := by decide +kernel
theorem dX0_actAtDepth_87 : decode cX0_actAtDepth 87 = .ok (.aload_n 0, 1) := by decide +kernel
theorem dX0_actAtDepth_88 : decode cX0_actAtDepth 88 = .ok (.getfield 19, 3) := by decide +kernel
theorem dX0_actAtDepth_91 : decode cX0_actAtDepth 91 = .ok (.iload 6, 2) := by decide +kernel
theorem dX0_actAtDepth_93 : decode cX0_actAtDepth 93 = .ok (.iaload, 1) := by decide +kernel
theorem dX0_actAtDepth_94 : decode cX0_actAtDepth 94 = .ok (.iload_n 3, 1) := by decide +kernel
theorem dX0_actAtDepth_95 : decode cX0_actAtDepth 95 = .ok (.iconst 1, 1) := by decide +kernel
theorem dX0_actAtDepth_96 : decode cX0_actAtDepth 96 = .ok (.iadd, 1) := by decide +kernel
theorem dX0_actAtDepth_97 : decode cX0_actAtDepth 97 = .ok (.invokevirtual 116, 3) := by decide +kernel
theorem dX0_actAtDepth_100 : decode cX0_actAtDepth 100 = .ok (.istore 7, 2) := by decide +kernel
theorem dX0_actAtDepth_102 : decode cX0_actAtDepth 102 = .ok (.iload 7, 2) := by decide +kernel
theorem dX0_actAtDepth_104 : decode cX0_actAtDepth 104 = .ok (.ifCond .eq 6, 3) := by decide +kernel
theorem dX0_actAtDepth_107 : decode cX0_actAtDepth 107 = .ok (.iload 7, 2) := by decide +kernel
theorem dX0_actAtDepth_109 : decode cX0_actAtDepth 109 = .ok (.ireturn, 1) := by decide +kernel
theorem dX0_actAtDepth_110 : decode cX0_actAtDepth 110 = .ok (.iinc 4 1, 3) := by decide +kernel
theorem dX0_actAtDepth_113 : decode cX0_actAtDepth 113 = .ok (.goto (-94), 3) := by decide +kernel
theorem dX0_actAtDepth_116 : decode cX0_actAtDepth 116 = .ok (.iconst 3, 1) := by decide +kernel
theorem dX0_actAtDepth_117 : decode cX0_actAtDepth 117 = .ok (.ireturn, 1) := by decide +kernel
theorem dX0_follow_0 : decode cX0_follow 0 = .ok (.iload_n 1, 1) := by decide +kernel
theorem dX0_follow_1 : decode cX0_follow 1 = .ok (.invokestatic 137, 3) := by decide +kernel
theorem dX0_follow_4 : decode cX0_follow 4 = .ok (.tableswitch 57 3 5 #[28, 53, 55], 28) := by decide +kernel
theorem dX0_follow_32 : decode cX0_follow 32 = .ok (.aload_n 0, 1) := by decide +kernel
theorem dX0_follow_33 : decode cX0_follow 33 = .ok (.aload_n 0, 1) := by decide +kernel
theorem dX0_follow_34 : decode cX0_follow 34 = .ok (.getfield 16, 3) := by decide +kernel
theorem dX0_follow_37 : decode cX0_follow 37 = .ok (.iload_n 1, 1) := by decide +kernel
theorem dX0_follow_38 : decode cX0_follow 38 = .ok (.invokestatic 145, 3) := by decide +kernel
theorem dX0_follow_41 : decode cX0_follow 41 = .ok (.iaload, 1) := by decide +kernel
theorem dX0_follow_42 : decode cX0_follow 42 = .ok (.putfield 122, 3) := by decide +kernel
theorem dX0_follow_45 : decode cX0_follow 45 = .ok (.aload_n 0, 1) := by decide +kernel
theorem dX0_follow_46 : decode cX0_follow 46 = .ok (.dup, 1) := by decide +kernel
theorem dX0_follow_47 : decode cX0_follow 47 = .ok (.getfield 159, 3) := by decide +kernel
theorem dX0_follow_50 : decode cX0_follow 50 = .ok (.iconst 1, 1) := by decide +kernel
theorem dX0_follow_51 : decode cX0_follow 51 = .ok (.iadd, 1) := by decide +kernel
theorem dX0_follow_52 : decode cX0_follow 52 = .ok (.putfield 159, 3) := by decide +kernel
theorem dX0_follow_55 : decode cX0_follow 55 = .ok (.iconst 0, 1) := by decide +kernel
theorem dX0_follow_56 : decode cX0_follow 56 = .ok (.ireturn, 1) := by decide +kernel
theorem dX0_follow_57 : decode cX0_follow 57 = .ok (.iconst 1, 1) := by decide +kernel
theorem dX0_follow_58 : decode cX0_follow 58 = .ok (.ireturn, 1) := by decide +kernel
theorem dX0_follow_59 : decode cX0_follow 59 = .ok (.iconst 2, 1) := by decide +kernel
theorem dX0_follow_60 : decode cX0_follow 60 = .ok (.ireturn, 1) := by decide +kernel
theorem dX0_follow_61 : decode cX0_follow 61 = .ok (.aload_n 0, 1) := by decide +kernel
theorem dX0_follow_62 : decode cX0_follow 62 = .ok (.aload_n 0, 1) := by decide +kernel
theorem dX0_follow_63 : decode cX0_follow 63 = .ok (.getfield 44, 3) := by decide +kernel
theorem dX0_follow_66 : decode cX0_follow 66 = .ok (.iload_n 2, 1) := by decide +kernel
theorem dX0_follow_67 : decode cX0_follow 67 = .ok (.iload_n 3, 1) := by decide +kernel
theorem dX0_follow_68 : decode cX0_follow 68 = .ok (.invokevirtual 217, 3) := by decide +kernel
theorem dX0_follow_71 : decode cX0_follow 71 = .ok (.aload_n 0, 1) := by decide +kernel
theorem dX0_follow_72 : decode cX0_follow 72 = .ok (.iload_n 2, 1) := by decide +kernel
theorem dX0_follow_73 : decode cX0_follow 73 = .ok (.iload_n 3, 1) := by decide +kernel
theorem dX0_follow_74 : decode cX0_follow 74 = .ok (.invokevirtual 221, 3) := by decide +kernel
theorem dX0_follow_77 : decode cX0_follow 77 = .ok (.iconst 0, 1) := by decide +kernel
theorem dX0_follow_78 : decode cX0_follow 78 = .ok (.ireturn, 1) := by decide +kernel
theorem dX0_perform_0 : decode cX0_perform 0 = .ok (.aload_n 0, 1) := by decide +kernel
theorem dX0_perform_1 : decode cX0_perform 1 = .ok (.getfield 38, 3) := by decide +kernel
theorem dX0_perform_4 : decode cX0_perform 4 = .ok (.iload_n 1, 1) := by decide +kernel
theorem dX0_perform_5 : decode cX0_perform 5 = .ok (.dup2, 1) := by decide +kernel
theorem dX0_perform_6 : decode cX0_perform 6 = .ok (.iaload, 1) := by decide +kernel
theorem dX0_perform_7 : decode cX0_perform 7 = .ok (.iload_n 2, 1) := by decide +kernel
theorem dX0_perform_8 : decode cX0_perform 8 = .ok (.iadd, 1) := by decide +kernel
theorem dX0_perform_9 : decode cX0_perform 9 = .ok (.iastore, 1) := by decide +kernel
theorem dX0_perform_10 : decode cX0_perform 10 = .ok (.aload_n 0, 1) := by decide +kernel
theorem dX0_perform_11 : decode cX0_perform 11 = .ok (.dup, 1) := by decide +kernel
theorem dX0_perform_12 : decode cX0_perform 12 = .ok (.getfield 156, 3) := by decide +kernel
theorem dX0_perform_15 : decode cX0_perform 15 = .ok (.iconst 1, 1) := by decide +kernel
theorem dX0_perform_16 : decode cX0_perform 16 = .ok (.iadd, 1) := by decide +kernel
theorem dX0_perform_17 : decode cX0_perform 17 = .ok (.putfield 156, 3) := by decide +kernel
theorem dX0_perform_20 : decode cX0_perform 20 = .ok (.aload_n 0, 1) := by decide +kernel
theorem dX0_perform_21 : decode cX0_perform 21 = .ok (.aload_n 0, 1) := by decide +kernel
theorem dX0_perform_22 : decode cX0_perform 22 = .ok (.getfield 38, 3) := by decide +kernel
theorem dX0_perform_25 : decode cX0_perform 25 = .ok (.iload_n 1, 1) := by decide +kernel
theorem dX0_perform_26 : decode cX0_perform 26 = .ok (.iaload, 1) := by decide +kernel
theorem dX0_perform_27 : decode cX0_perform 27 = .ok (.putfield 122, 3) := by decide +kernel
theorem dX0_perform_30 : decode cX0_perform 30 = .ok (.return_, 1) := by decide +kernel
theorem dX0_forgetSpent_0 : decode cX0_forgetSpent 0 = .ok (.iconst 0, 1) := by decide +kernel
theorem dX0_forgetSpent_1 : decode cX0_forgetSpent 1 = .ok (.istore_n 1, 1) := by decide +kernel
theorem dX0_forgetSpent_2 : decode cX0_forgetSpent 2 = .ok (.iload_n 1, 1) := by decide +kernel
theorem dX0_forgetSpent_3 : decode cX0_forgetSpent 3 = .ok (.bipush 40, 2) := by decide +kernel
theorem dX0_forgetSpent_5 : decode cX0_forgetSpent 5 = .ok (.if_icmp .ge 16, 3) := by decide +kernel
theorem dX0_forgetSpent_8 : decode cX0_forgetSpent 8 = .ok (.aload_n 0, 1) := by decide +kernel
theorem dX0_forgetSpent_9 : decode cX0_forgetSpent 9 = .ok (.getfield 32, 3) := by decide +kernel
theorem dX0_forgetSpent_12 : decode cX0_forgetSpent 12 = .ok (.iload_n 1, 1) := by decide +kernel
theorem dX0_forgetSpent_13 : decode cX0_forgetSpent 13 = .ok (.iconst 0, 1) := by decide +kernel
theorem dX0_forgetSpent_14 : decode cX0_forgetSpent 14 = .ok (.bastore, 1) := by decide +kernel
theorem dX0_forgetSpent_15 : decode cX0_forgetSpent 15 = .ok (.iinc 1 1, 3) := by decide +kernel
theorem dX0_forgetSpent_18 : decode cX0_forgetSpent 18 = .ok (.goto (-16), 3) := by decide +kernel
theorem dX0_forgetSpent_21 : decode cX0_forgetSpent 21 = .ok (.return_, 1) := by decide +kernel
theorem dJ9_floorMod_0 : decode cJ9_floorMod 0 = .ok (.iload_n 0, 1) := by decide +kernel
theorem dJ9_floorMod_1 : decode cJ9_floorMod 1 = .ok (.iload_n 1, 1) := by decide +kernel
theorem dJ9_floorMod_2 : decode cJ9_floorMod 2 = .ok (.irem, 1) := by decide +kernel
theorem dJ9_floorMod_3 : decode cJ9_floorMod 3 = .ok (.istore_n 2, 1) := by decide +kernel
theorem dJ9_floorMod_4 : decode cJ9_floorMod 4 = .ok (.iload_n 0, 1) := by decide +kernel
theorem dJ9_floorMod_5 : decode cJ9_floorMod 5 = .ok (.iload_n 1, 1) := by decide +kernel
theorem dJ9_floorMod_6 : decode cJ9_floorMod 6 = .ok (.ixor, 1) := by decide +kernel
theorem dJ9_floorMod_7 : decode cJ9_floorMod 7 = .ok (.ifCond .ge 11, 3) := by decide +kernel
theorem dJ9_floorMod_10 : decode cJ9_floorMod 10 = .ok (.iload_n 2, 1) := by decide +kernel
theorem dJ9_floorMod_11 : decode cJ9_floorMod 11 = .ok (.ifCond .eq 7, 3) := by decide +kernel
theorem dJ9_floorMod_14 : decode cJ9_floorMod 14 = .ok (.iload_n 2, 1) := by decide +kernel
theorem dJ9_floorMod_15 : decode cJ9_floorMod 15 = .ok (.iload_n 1, 1) := by decide +kernel
theorem dJ9_floorMod_16 : decode cJ9_floorMod 16 = .ok (.iadd, 1) := by decide +kernel
theorem dJ9_floorMod_17 : decode cJ9_floorMod 17 = .ok (.ireturn, 1) := by decide +kernel
theorem dJ9_floorMod_18 : decode cJ9_floorMod 18 = .ok (.iload_n 2, 1) := by decide +kernel
theorem dJ9_floorMod_19 : decode cJ9_floorMod 19 = .ok (.ireturn, 1) := by decide +kernel
end
section
def RX1 : String := "PolicyMonitorModel"
def TX1 : u_T := fun k => match k with
  | 0 => ("PolicyMonitorModel", "made", "I", false)
  | 1 => ("PolicyMonitorModel", "installed", "I", false)
  | 2 => ("PolicyMonitorModel", "notes", "I", false)
  | 3 => ("PolicyMonitorModel", "done", "I", false)
  | 4 => ("PolicyMonitorModel", "replaced", "I", false)
  | 5 => ("PolicyMonitorModel", "threw", "I", false)
  | 6 => ("PolicyMonitorModel", "code", "I", false)
  | 7 => ("PolicyMonitorModel", "result", "I", false)
  | 8 => ("PolicyMonitorModel", "stopped", "Z", false)
  | 9 => ("PolicyMonitorModel", "kind", "[I", true)
  | 10 => ("PolicyMonitorModel", "opA", "[I", true)
  | 11 => ("PolicyMonitorModel", "opB", "[I", true)
  | 12 => ("PolicyMonitorModel", "opC", "[I", true)
  | 13 => ("PolicyMonitorModel", "level", "[I", true)
  | 14 => ("PolicyMonitorModel", "state", "[I", true)
  | 15 => ("PolicyMonitorModel", "used", "[Z", true)
  | 16 => ("PolicyMonitorModel", "spent", "[Z", true)
  | 17 => ("PolicyMonitorModel", "table", "[I", true)
  | 18 => ("PolicyMonitorModel", "total", "[I", true)
  | 19 => ("PolicyMonitorModel", "note", "[I", true)
  | 20 => ("PolicyMonitorModel", "is", "[I", true)
  | 21 => ("PolicyMonitorModel", "sort", "[I", true)
  | 22 => ("PolicyMonitorModel", "value", "[I", true)
  | 23 => ("PolicyMonitorModel", "from", "[I", true)
  | 24 => ("PolicyMonitorModel", "under", "[I", true)
  | 25 => ("PolicyMonitorModel", "phase", "[I", true)
  | 26 => ("PolicyMonitorModel", "actSort", "[I", true)
  | _ => ("PolicyMonitorModel", "actArgument", "[I", true)
def tyX1 : Nat → FieldType := fun k => match k with
  | 0 => .int
  | 1 => .int
  | 2 => .int
  | 3 => .int
  | 4 => .int
  | 5 => .int
  | 6 => .int
  | 7 => .int
  | 8 => .boolean
  | 9 => .array .int
  | 10 => .array .int
  | 11 => .array .int
  | 12 => .array .int
  | 13 => .array .int
  | 14 => .array .int
  | 15 => .array .boolean
  | 16 => .array .boolean
  | 17 => .array .int
  | 18 => .array .int
  | 19 => .array .int
  | 20 => .array .int
  | 21 => .array .int
  | 22 => .array .int
  | 23 => .array .int
  | 24 => .array .int
  | 25 => .array .int
  | 26 => .array .int
  | _ => .array .int
theorem iX1 : ∀ w ∈ u_ws RX1 TX1 28, w ∈ lw_tbl := by decide +kernel
theorem gX1 : (u_ws RX1 TX1 28).all goodWord = true := by decide +kernel
theorem FX1ok : kc_F RX1 TX1 28 tyX1 := ⟨fun w h => tw_l (iX1 w h) (List.all_eq_true.mp gX1 w h), by decide +kernel, by decide +kernel⟩
theorem flX1_7 : Cond.fieldLink RX1 7 RX1 "made" "I" ∈ tw := tw_t 397 (by decide +kernel) (by decide +kernel)
theorem flX1_13 : Cond.fieldLink RX1 13 RX1 "installed" "I" ∈ tw := tw_t 398 (by decide +kernel) (by decide +kernel)
theorem flX1_16 : Cond.fieldLink RX1 16 RX1 "notes" "I" ∈ tw := tw_t 399 (by decide +kernel) (by decide +kernel)
theorem flX1_19 : Cond.fieldLink RX1 19 RX1 "done" "I" ∈ tw := tw_t 400 (by decide +kernel) (by decide +kernel)
theorem flX1_22 : Cond.fieldLink RX1 22 RX1 "replaced" "I" ∈ tw := tw_t 401 (by decide +kernel) (by decide +kernel)
theorem flX1_25 : Cond.fieldLink RX1 25 RX1 "threw" "I" ∈ tw := tw_t 402 (by decide +kernel) (by decide +kernel)
theorem flX1_28 : Cond.fieldLink RX1 28 RX1 "code" "I" ∈ tw := tw_t 403 (by decide +kernel) (by decide +kernel)
theorem flX1_31 : Cond.fieldLink RX1 31 RX1 "result" "I" ∈ tw := tw_t 404 (by decide +kernel) (by decide +kernel)
theorem flX1_34 : Cond.fieldLink RX1 34 RX1 "stopped" "Z" ∈ tw := tw_t 405 (by decide +kernel) (by decide +kernel)
theorem flX1_38 : Cond.fieldLink RX1 38 RX1 "kind" "[I" ∈ tw := tw_t 406 (by decide +kernel) (by decide +kernel)
theorem flX1_42 : Cond.fieldLink RX1 42 RX1 "opA" "[I" ∈ tw := tw_t 407 (by decide +kernel) (by decide +kernel)
theorem flX1_45 : Cond.fieldLink RX1 45 RX1 "opB" "[I" ∈ tw := tw_t 408 (by decide +kernel) (by decide +kernel)
theorem flX1_48 : Cond.fieldLink RX1 48 RX1 "opC" "[I" ∈ tw := tw_t 409 (by decide +kernel) (by decide +kernel)
theorem flX1_51 : Cond.fieldLink RX1 51 RX1 "level" "[I" ∈ tw := tw_t 410 (by decide +kernel) (by decide +kernel)
theorem flX1_54 : Cond.fieldLink RX1 54 RX1 "state" "[I" ∈ tw := tw_t 411 (by decide +kernel) (by decide +kernel)
theorem flX1_57 : Cond.fieldLink RX1 57 RX1 "used" "[Z" ∈ tw := tw_t 412 (by decide +kernel) (by decide +kernel)
theorem flX1_61 : Cond.fieldLink RX1 61 RX1 "spent" "[Z" ∈ tw := tw_t 413 (by decide +kernel) (by decide +kernel)
theorem flX1_64 : Cond.fieldLink RX1 64 RX1 "table" "[I" ∈ tw := tw_t 414 (by decide +kernel) (by decide +kernel)
theorem flX1_67 : Cond.fieldLink RX1 67 RX1 "total" "[I" ∈ tw := tw_t 415 (by decide +kernel) (by decide +kernel)
theorem flX1_70 : Cond.fieldLink RX1 70 RX1 "note" "[I" ∈ tw := tw_t 416 (by decide +kernel) (by decide +kernel)
theorem flX1_73 : Cond.fieldLink RX1 73 RX1 "is" "[I" ∈ tw := tw_t 417 (by decide +kernel) (by decide +kernel)
theorem flX1_76 : Cond.fieldLink RX1 76 RX1 "sort" "[I" ∈ tw := tw_t 418 (by decide +kernel) (by decide +kernel)
theorem flX1_79 : Cond.fieldLink RX1 79 RX1 "value" "[I" ∈ tw := tw_t 419 (by decide +kernel) (by decide +kernel)
theorem flX1_82 : Cond.fieldLink RX1 82 RX1 "from" "[I" ∈ tw := tw_t 420 (by decide +kernel) (by decide +kernel)
theorem flX1_85 : Cond.fieldLink RX1 85 RX1 "under" "[I" ∈ tw := tw_t 421 (by decide +kernel) (by decide +kernel)
theorem flX1_88 : Cond.fieldLink RX1 88 RX1 "phase" "[I" ∈ tw := tw_t 422 (by decide +kernel) (by decide +kernel)
theorem flX1_91 : Cond.fieldLink RX1 91 RX1 "actSort" "[I" ∈ tw := tw_t 423 (by decide +kernel) (by decide +kernel)
theorem flX1_94 : Cond.fieldLink RX1 94 RX1 "actArgument" "[I" ∈ tw := tw_t 424 (by decide +kernel) (by decide +kernel)
abbrev cX1_init : ByteArray := prog_3_method_1_code
def yX1_init : MethodName := ⟨RX1, "<init>", "()V"⟩
abbrev cX1_thrown : ByteArray := prog_3_method_2_code
def yX1_thrown : MethodName := ⟨RX1, "thrown", "()I"⟩
abbrev cX1_fail : ByteArray := prog_3_method_3_code
def yX1_fail : MethodName := ⟨RX1, "fail", "(I)I"⟩
abbrev cX1_fine : ByteArray := prog_3_method_4_code
def yX1_fine : MethodName := ⟨RX1, "fine", "(I)I"⟩
abbrev cX1_out : ByteArray := prog_3_method_5_code
def yX1_out : MethodName := ⟨RX1, "out", "(III)Z"⟩
abbrev cX1_table : ByteArray := prog_3_method_6_code
def yX1_table : MethodName := ⟨RX1, "table", "(IIII)I"⟩
abbrev cX1_namesA : ByteArray := prog_3_method_7_code
def yX1_namesA : MethodName := ⟨RX1, "namesA", "(I)Z"⟩
abbrev cX1_namesB : ByteArray := prog_3_method_8_code
def yX1_namesB : MethodName := ⟨RX1, "namesB", "(I)Z"⟩
abbrev cX1_no : ByteArray := prog_3_method_9_code
def yX1_no : MethodName := ⟨RX1, "no", "(I)Z"⟩
abbrev cX1_fits : ByteArray := prog_3_method_10_code
def yX1_fits : MethodName := ⟨RX1, "fits", "(IIII)Z"⟩
abbrev cX1_policy : ByteArray := prog_3_method_11_code
def yX1_policy : MethodName := ⟨RX1, "policy", "(IIII)I"⟩
abbrev cX1_install : ByteArray := prog_3_method_12_code
def yX1_install : MethodName := ⟨RX1, "install", "(I)I"⟩
abbrev cX1_suggest : ByteArray := prog_3_method_13_code
def yX1_suggest : MethodName := ⟨RX1, "suggest", "(II)V"⟩
abbrev cX1_same : ByteArray := prog_3_method_14_code
def yX1_same : MethodName := ⟨RX1, "same", "(II)V"⟩
abbrev cX1_in : ByteArray := prog_3_method_15_code
def yX1_in : MethodName := ⟨RX1, "in", "(II)Z"⟩
abbrev cX1_plain : ByteArray := prog_3_method_16_code
def yX1_plain : MethodName := ⟨RX1, "plain", "(III)V"⟩
abbrev cX1_takesA : ByteArray := prog_3_method_17_code
def yX1_takesA : MethodName := ⟨RX1, "takesA", "(III)Z"⟩
abbrev cX1_next : ByteArray := prog_3_method_18_code
def yX1_next : MethodName := ⟨RX1, "next", "(III)I"⟩
abbrev cX1_combine : ByteArray := prog_3_method_19_code
def yX1_combine : MethodName := ⟨RX1, "combine", "(IIIZ)V"⟩
abbrev cX1_askAll : ByteArray := prog_3_method_20_code
def yX1_askAll : MethodName := ⟨RX1, "askAll", "(IIZ)I"⟩
abbrev cX1_accept : ByteArray := prog_3_method_21_code
def yX1_accept : MethodName := ⟨RX1, "accept", "(II)V"⟩
abbrev cX1_perform : ByteArray := prog_3_method_22_code
def yX1_perform : MethodName := ⟨RX1, "perform", "(II)V"⟩
abbrev cX1_acting : ByteArray := prog_3_method_23_code
def yX1_acting : MethodName := ⟨RX1, "acting", "()I"⟩
abbrev cX1_act : ByteArray := prog_3_method_24_code
def yX1_act : MethodName := ⟨RX1, "act", "(II)I"⟩
abbrev cX1_ask : ByteArray := prog_3_method_25_code
def yX1_ask : MethodName := ⟨RX1, "ask", "(II)I"⟩
abbrev cX1_detail : ByteArray := prog_3_method_26_code
def yX1_detail : MethodName := ⟨RX1, "detail", "(III)I"⟩
abbrev cX1_total : ByteArray := prog_3_method_27_code
def yX1_total : MethodName := ⟨RX1, "total", "(I)I"⟩
abbrev cX1_state : ByteArray := prog_3_method_28_code
def yX1_state : MethodName := ⟨RX1, "state", "(I)I"⟩
abbrev cX1_noted : ByteArray := prog_3_method_29_code
def yX1_noted : MethodName := ⟨RX1, "noted", "(I)I"⟩
abbrev cX1_count : ByteArray := prog_3_method_30_code
def yX1_count : MethodName := ⟨RX1, "count", "(I)I"⟩
theorem mlX1_1 : Cond.methodLink RX1 1 (⟨"java/lang/Object", "<init>", "()V"⟩ : MethodName) ∈ tw := tw_t 396 (by decide +kernel) (by decide +kernel)
theorem mlX1_97 : Cond.methodLink RX1 97 yX1_out ∈ tw := tw_t 490 (by decide +kernel) (by decide +kernel)
theorem mlX1_101 : Cond.methodLink RX1 101 yX1_fail ∈ tw := tw_t 494 (by decide +kernel) (by decide +kernel)
theorem mlX1_105 : Cond.methodLink RX1 105 yX1_fine ∈ tw := tw_t 498 (by decide +kernel) (by decide +kernel)
theorem mlX1_118 : Cond.methodLink RX1 118 yX1_fits ∈ tw := tw_t 506 (by decide +kernel) (by decide +kernel)
theorem mlX1_108 : Cond.methodLink RX1 108 yX1_namesA ∈ tw := tw_t 510 (by decide +kernel) (by decide +kernel)
theorem mlX1_112 : Cond.methodLink RX1 112 yX1_no ∈ tw := tw_t 514 (by decide +kernel) (by decide +kernel)
theorem mlX1_115 : Cond.methodLink RX1 115 yX1_namesB ∈ tw := tw_t 518 (by decide +kernel) (by decide +kernel)
theorem mlX1_158 : Cond.methodLink RX1 158 yX1_acting ∈ tw := tw_t 530 (by decide +kernel) (by decide +kernel)
theorem mlX1_148 : Cond.methodLink RX1 148 yX1_askAll ∈ tw := tw_t 534 (by decide +kernel) (by decide +kernel)
theorem mlX1_140 : Cond.methodLink RX1 140 yX1_next ∈ tw := tw_t 538 (by decide +kernel) (by decide +kernel)
theorem mlX1_126 : Cond.methodLink RX1 126 yX1_in ∈ tw := tw_t 542 (by decide +kernel) (by decide +kernel)
theorem mlX1_130 : Cond.methodLink RX1 130 yX1_takesA ∈ tw := tw_t 546 (by decide +kernel) (by decide +kernel)
theorem mlX1_144 : Cond.methodLink RX1 144 yX1_combine ∈ tw := tw_t 550 (by decide +kernel) (by decide +kernel)
theorem mlX1_133 : Cond.methodLink RX1 133 yX1_plain ∈ tw := tw_t 554 (by decide +kernel) (by decide +kernel)
theorem mlX1_122 : Cond.methodLink RX1 122 yX1_suggest ∈ tw := tw_t 558 (by decide +kernel) (by decide +kernel)
theorem mlX1_137 : Cond.methodLink RX1 137 yX1_same ∈ tw := tw_t 562 (by decide +kernel) (by decide +kernel)
theorem mlX1_152 : Cond.methodLink RX1 152 yX1_accept ∈ tw := tw_t 566 (by decide +kernel) (by decide +kernel)
theorem mlX1_155 : Cond.methodLink RX1 155 yX1_perform ∈ tw := tw_t 570 (by decide +kernel) (by decide +kernel)
theorem imX1_init : Cond.instanceMethod yX1_init ∈ tw := tw_t 394 (by decide +kernel) (by decide +kernel)
theorem cdX1_init : Cond.code yX1_init cX1_init 2 none ∈ tw := tw_t 395 (by decide +kernel) (by decide +kernel)
theorem yvX1_thrown : kc_yv yX1_thrown cX1_thrown 1 (some .int) RX1 0 := ⟨tw_t 483 (by decide +kernel) (by decide +kernel), tw_t 484 (by decide +kernel) (by decide +kernel), tw_t 2 (by decide +kernel) (by decide +kernel), tw_t 485 (by decide +kernel) (by decide +kernel), rfl, ⟨by decide +kernel, by decide +kernel, by decide +kernel⟩⟩
theorem yvX1_fail : kc_yv yX1_fail cX1_fail 2 (some .int) RX1 1 := ⟨tw_t 496 (by decide +kernel) (by decide +kernel), tw_p yX1_fail 28 (by decide +kernel) (by decide +kernel), tw_t 2 (by decide +kernel) (by decide +kernel), tw_t 497 (by decide +kernel) (by decide +kernel), rfl, ⟨by decide +kernel, by decide +kernel, by decide +kernel⟩⟩
theorem yvX1_fine : kc_yv yX1_fine cX1_fine 2 (some .int) RX1 1 := ⟨tw_t 500 (by decide +kernel) (by decide +kernel), tw_p yX1_fine 28 (by decide +kernel) (by decide +kernel), tw_t 2 (by decide +kernel) (by decide +kernel), tw_t 501 (by decide +kernel) (by decide +kernel), rfl, ⟨by decide +kernel, by decide +kernel, by decide +kernel⟩⟩
theorem yvX1_out : kc_yv yX1_out cX1_out 4 (some .boolean) RX1 3 := ⟨tw_t 492 (by decide +kernel) (by decide +kernel), tw_p yX1_out 28 (by decide +kernel) (by decide +kernel), tw_t 2 (by decide +kernel) (by decide +kernel), tw_t 493 (by decide +kernel) (by decide +kernel), rfl, ⟨by decide +kernel, by decide +kernel, by decide +kernel⟩⟩
theorem yvX1_table : kc_yv yX1_table cX1_table 7 (some .int) RX1 4 := ⟨tw_t 487 (by decide +kernel) (by decide +kernel), tw_t 488 (by decide +kernel) (by decide +kernel), tw_t 2 (by decide +kernel) (by decide +kernel), tw_t 489 (by decide +kernel) (by decide +kernel), rfl, ⟨by decide +kernel, by decide +kernel, by decide +kernel⟩⟩
theorem yvX1_namesA : kc_yv yX1_namesA cX1_namesA 2 (some .boolean) RX1 1 := ⟨tw_t 512 (by decide +kernel) (by decide +kernel), tw_p yX1_namesA 28 (by decide +kernel) (by decide +kernel), tw_t 2 (by decide +kernel) (by decide +kernel), tw_t 513 (by decide +kernel) (by decide +kernel), rfl, ⟨by decide +kernel, by decide +kernel, by decide +kernel⟩⟩
theorem yvX1_namesB : kc_yv yX1_namesB cX1_namesB 2 (some .boolean) RX1 1 := ⟨tw_t 520 (by decide +kernel) (by decide +kernel), tw_p yX1_namesB 28 (by decide +kernel) (by decide +kernel), tw_t 2 (by decide +kernel) (by decide +kernel), tw_t 521 (by decide +kernel) (by decide +kernel), rfl, ⟨by decide +kernel, by decide +kernel, by decide +kernel⟩⟩
theorem yvX1_no : kc_yv yX1_no cX1_no 2 (some .boolean) RX1 1 := ⟨tw_t 516 (by decide +kernel) (by decide +kernel), tw_p yX1_no 28 (by decide +kernel) (by decide +kernel), tw_t 2 (by decide +kernel) (by decide +kernel), tw_t 517 (by decide +kernel) (by decide +kernel), rfl, ⟨by decide +kernel, by decide +kernel, by decide +kernel⟩⟩
theorem yvX1_fits : kc_yv yX1_fits cX1_fits 5 (some .boolean) RX1 4 := ⟨tw_t 508 (by decide +kernel) (by decide +kernel), tw_p yX1_fits 28 (by decide +kernel) (by decide +kernel), tw_t 2 (by decide +kernel) (by decide +kernel), tw_t 509 (by decide +kernel) (by decide +kernel), rfl, ⟨by decide +kernel, by decide +kernel, by decide +kernel⟩⟩
theorem yvX1_policy : kc_yv yX1_policy cX1_policy 8 (some .int) RX1 4 := ⟨tw_t 503 (by decide +kernel) (by decide +kernel), tw_t 504 (by decide +kernel) (by decide +kernel), tw_t 2 (by decide +kernel) (by decide +kernel), tw_t 505 (by decide +kernel) (by decide +kernel), rfl, ⟨by decide +kernel, by decide +kernel, by decide +kernel⟩⟩
theorem yvX1_install : kc_yv yX1_install cX1_install 3 (some .int) RX1 1 := ⟨tw_t 523 (by decide +kernel) (by decide +kernel), tw_t 524 (by decide +kernel) (by decide +kernel), tw_t 2 (by decide +kernel) (by decide +kernel), tw_t 525 (by decide +kernel) (by decide +kernel), rfl, ⟨by decide +kernel, by decide +kernel, by decide +kernel⟩⟩
theorem yvX1_suggest : kc_yv yX1_suggest cX1_suggest 3 none RX1 2 := ⟨tw_t 560 (by decide +kernel) (by decide +kernel), tw_p yX1_suggest 28 (by decide +kernel) (by decide +kernel), tw_t 2 (by decide +kernel) (by decide +kernel), tw_t 561 (by decide +kernel) (by decide +kernel), rfl, ⟨by decide +kernel, by decide +kernel, by decide +kernel⟩⟩
theorem yvX1_same : kc_yv yX1_same cX1_same 3 none RX1 2 := ⟨tw_t 564 (by decide +kernel) (by decide +kernel), tw_p yX1_same 28 (by decide +kernel) (by decide +kernel), tw_t 2 (by decide +kernel) (by decide +kernel), tw_t 565 (by decide +kernel) (by decide +kernel), rfl, ⟨by decide +kernel, by decide +kernel, by decide +kernel⟩⟩
theorem yvX1_in : kc_yv yX1_in cX1_in 3 (some .boolean) RX1 2 := ⟨tw_t 544 (by decide +kernel) (by decide +kernel), tw_p yX1_in 28 (by decide +kernel) (by decide +kernel), tw_t 2 (by decide +kernel) (by decide +kernel), tw_t 545 (by decide +kernel) (by decide +kernel), rfl, ⟨by decide +kernel, by decide +kernel, by decide +kernel⟩⟩
theorem yvX1_plain : kc_yv yX1_plain cX1_plain 9 none RX1 3 := ⟨tw_t 556 (by decide +kernel) (by decide +kernel), tw_p yX1_plain 28 (by decide +kernel) (by decide +kernel), tw_t 2 (by decide +kernel) (by decide +kernel), tw_t 557 (by decide +kernel) (by decide +kernel), rfl, ⟨by decide +kernel, by decide +kernel, by decide +kernel⟩⟩
theorem yvX1_takesA : kc_yv yX1_takesA cX1_takesA 4 (some .boolean) RX1 3 := ⟨tw_t 548 (by decide +kernel) (by decide +kernel), tw_p yX1_takesA 28 (by decide +kernel) (by decide +kernel), tw_t 2 (by decide +kernel) (by decide +kernel), tw_t 549 (by decide +kernel) (by decide +kernel), rfl, ⟨by decide +kernel, by decide +kernel, by decide +kernel⟩⟩
theorem yvX1_next : kc_yv yX1_next cX1_next 5 (some .int) RX1 3 := ⟨tw_t 540 (by decide +kernel) (by decide +kernel), tw_p yX1_next 28 (by decide +kernel) (by decide +kernel), tw_t 2 (by decide +kernel) (by decide +kernel), tw_t 541 (by decide +kernel) (by decide +kernel), rfl, ⟨by decide +kernel, by decide +kernel, by decide +kernel⟩⟩
theorem yvX1_combine : kc_yv yX1_combine cX1_combine 9 none RX1 4 := ⟨tw_t 552 (by decide +kernel) (by decide +kernel), tw_p yX1_combine 28 (by decide +kernel) (by decide +kernel), tw_t 2 (by decide +kernel) (by decide +kernel), tw_t 553 (by decide +kernel) (by decide +kernel), rfl, ⟨by decide +kernel, by decide +kernel, by decide +kernel⟩⟩
theorem yvX1_askAll : kc_yv yX1_askAll cX1_askAll 7 (some .int) RX1 3 := ⟨tw_t 536 (by decide +kernel) (by decide +kernel), tw_p yX1_askAll 28 (by decide +kernel) (by decide +kernel), tw_t 2 (by decide +kernel) (by decide +kernel), tw_t 537 (by decide +kernel) (by decide +kernel), rfl, ⟨by decide +kernel, by decide +kernel, by decide +kernel⟩⟩
theorem yvX1_accept : kc_yv yX1_accept cX1_accept 8 none RX1 2 := ⟨tw_t 568 (by decide +kernel) (by decide +kernel), tw_p yX1_accept 28 (by decide +kernel) (by decide +kernel), tw_t 2 (by decide +kernel) (by decide +kernel), tw_t 569 (by decide +kernel) (by decide +kernel), rfl, ⟨by decide +kernel, by decide +kernel, by decide +kernel⟩⟩
theorem yvX1_perform : kc_yv yX1_perform cX1_perform 3 none RX1 2 := ⟨tw_t 572 (by decide +kernel) (by decide +kernel), tw_p yX1_perform 28 (by decide +kernel) (by decide +kernel), tw_t 2 (by decide +kernel) (by decide +kernel), tw_t 573 (by decide +kernel) (by decide +kernel), rfl, ⟨by decide +kernel, by decide +kernel, by decide +kernel⟩⟩
theorem yvX1_acting : kc_yv yX1_acting cX1_acting 5 (some .int) RX1 0 := ⟨tw_t 532 (by decide +kernel) (by decide +kernel), tw_p yX1_acting 28 (by decide +kernel) (by decide +kernel), tw_t 2 (by decide +kernel) (by decide +kernel), tw_t 533 (by decide +kernel) (by decide +kernel), rfl, ⟨by decide +kernel, by decide +kernel, by decide +kernel⟩⟩
theorem yvX1_act : kc_yv yX1_act cX1_act 5 (some .int) RX1 2 := ⟨tw_t 527 (by decide +kernel) (by decide +kernel), tw_t 528 (by decide +kernel) (by decide +kernel), tw_t 2 (by decide +kernel) (by decide +kernel), tw_t 529 (by decide +kernel) (by decide +kernel), rfl, ⟨by decide +kernel, by decide +kernel, by decide +kernel⟩⟩
theorem yvX1_ask : kc_yv yX1_ask cX1_ask 3 (some .int) RX1 2 := ⟨tw_t 575 (by decide +kernel) (by decide +kernel), tw_t 576 (by decide +kernel) (by decide +kernel), tw_t 2 (by decide +kernel) (by decide +kernel), tw_t 577 (by decide +kernel) (by decide +kernel), rfl, ⟨by decide +kernel, by decide +kernel, by decide +kernel⟩⟩
theorem yvX1_detail : kc_yv yX1_detail cX1_detail 5 (some .int) RX1 3 := ⟨tw_t 579 (by decide +kernel) (by decide +kernel), tw_t 580 (by decide +kernel) (by decide +kernel), tw_t 2 (by decide +kernel) (by decide +kernel), tw_t 581 (by decide +kernel) (by decide +kernel), rfl, ⟨by decide +kernel, by decide +kernel, by decide +kernel⟩⟩
theorem yvX1_total : kc_yv yX1_total cX1_total 2 (some .int) RX1 1 := ⟨tw_t 583 (by decide +kernel) (by decide +kernel), tw_t 584 (by decide +kernel) (by decide +kernel), tw_t 2 (by decide +kernel) (by decide +kernel), tw_t 585 (by decide +kernel) (by decide +kernel), rfl, ⟨by decide +kernel, by decide +kernel, by decide +kernel⟩⟩
theorem yvX1_state : kc_yv yX1_state cX1_state 2 (some .int) RX1 1 := ⟨tw_t 587 (by decide +kernel) (by decide +kernel), tw_t 588 (by decide +kernel) (by decide +kernel), tw_t 2 (by decide +kernel) (by decide +kernel), tw_t 589 (by decide +kernel) (by decide +kernel), rfl, ⟨by decide +kernel, by decide +kernel, by decide +kernel⟩⟩
theorem yvX1_noted : kc_yv yX1_noted cX1_noted 2 (some .int) RX1 1 := ⟨tw_t 591 (by decide +kernel) (by decide +kernel), tw_t 592 (by decide +kernel) (by decide +kernel), tw_t 2 (by decide +kernel) (by decide +kernel), tw_t 593 (by decide +kernel) (by decide +kernel), rfl, ⟨by decide +kernel, by decide +kernel, by decide +kernel⟩⟩
theorem yvX1_count : kc_yv yX1_count cX1_count 2 (some .int) RX1 1 := ⟨tw_t 595 (by decide +kernel) (by decide +kernel), tw_t 596 (by decide +kernel) (by decide +kernel), tw_t 2 (by decide +kernel) (by decide +kernel), tw_t 597 (by decide +kernel) (by decide +kernel), rfl, ⟨by decide +kernel, by decide +kernel, by decide +kernel⟩⟩
end
section
theorem dX1_init_0 : decode cX1_init 0 = .ok (.aload_n 0, 1) := by decide +kernel
theorem dX1_init_1 : decode cX1_init 1 = .ok (.invokespecial 1, 3) := by decide +kernel
theorem dX1_init_4 : decode cX1_init 4 = .ok (.aload_n 0, 1) := by decide +kernel
theorem dX1_init_5 : decode cX1_init 5 = .ok (.iconst 0, 1) := by decide +kernel
theorem dX1_init_6 : decode cX1_init 6 = .ok (.putfield 7, 3) := by decide +kernel
theorem dX1_init_9 : decode cX1_init 9 = .ok (.aload_n 0, 1) := by decide +kernel
theorem dX1_init_10 : decode cX1_init 10 = .ok (.iconst (-1), 1) := by decide +kernel
theorem dX1_init_11 : decode cX1_init 11 = .ok (.putfield 13, 3) := by decide +kernel
theorem dX1_init_14 : decode cX1_init 14 = .ok (.aload_n 0, 1) := by decide +kernel
theorem dX1_init_15 : decode cX1_init 15 = .ok (.iconst 0, 1) := by decide +kernel
theorem dX1_init_16 : decode cX1_init 16 = .ok (.putfield 16, 3) := by decide +kernel
theorem dX1_init_19 : decode cX1_init 19 = .ok (.aload_n 0, 1) := by decide +kernel
theorem dX1_init_20 : decode cX1_init 20 = .ok (.iconst 0, 1) := by decide +kernel
theorem dX1_init_21 : decode cX1_init 21 = .ok (.putfield 19, 3) := by decide +kernel
theorem dX1_init_24 : decode cX1_init 24 = .ok (.aload_n 0, 1) := by decide +kernel
theorem dX1_init_25 : decode cX1_init 25 = .ok (.iconst 0, 1) := by decide +kernel
theorem dX1_init_26 : decode cX1_init 26 = .ok (.putfield 22, 3) := by decide +kernel
theorem dX1_init_29 : decode cX1_init 29 = .ok (.aload_n 0, 1) := by decide +kernel
theorem dX1_init_30 : decode cX1_init 30 = .ok (.iconst 0, 1) := by decide +kernel
theorem dX1_init_31 : decode cX1_init 31 = .ok (.putfield 25, 3) := by decide +kernel
theorem dX1_init_34 : decode cX1_init 34 = .ok (.aload_n 0, 1) := by decide +kernel
theorem dX1_init_35 : decode cX1_init 35 = .ok (.iconst 0, 1) := by decide +kernel
theorem dX1_init_36 : decode cX1_init 36 = .ok (.putfield 28, 3) := by decide +kernel
theorem dX1_init_39 : decode cX1_init 39 = .ok (.aload_n 0, 1) := by decide +kernel
theorem dX1_init_40 : decode cX1_init 40 = .ok (.iconst 0, 1) := by decide +kernel
theorem dX1_init_41 : decode cX1_init 41 = .ok (.putfield 31, 3) := by decide +kernel
theorem dX1_init_44 : decode cX1_init 44 = .ok (.aload_n 0, 1) := by decide +kernel
theorem dX1_init_45 : decode cX1_init 45 = .ok (.iconst 0, 1) := by decide +kernel
theorem dX1_init_46 : decode cX1_init 46 = .ok (.putfield 34, 3) := by decide +kernel
theorem dX1_init_49 : decode cX1_init 49 = .ok (.aload_n 0, 1) := by decide +kernel
theorem dX1_init_50 : decode cX1_init 50 = .ok (.bipush 40, 2) := by decide +kernel
theorem dX1_init_52 : decode cX1_init 52 = .ok (.newarray .int, 2) := by decide +kernel
theorem dX1_init_54 : decode cX1_init 54 = .ok (.putfield 38, 3) := by decide +kernel
theorem dX1_init_57 : decode cX1_init 57 = .ok (.aload_n 0, 1) := by decide +kernel
theorem dX1_init_58 : decode cX1_init 58 = .ok (.bipush 40, 2) := by decide +kernel
theorem dX1_init_60 : decode cX1_init 60 = .ok (.newarray .int, 2) := by decide +kernel
theorem dX1_init_62 : decode cX1_init 62 = .ok (.putfield 42, 3) := by decide +kernel
theorem dX1_init_65 : decode cX1_init 65 = .ok (.aload_n 0, 1) := by decide +kernel
theorem dX1_init_66 : decode cX1_init 66 = .ok (.bipush 40, 2) := by decide +kernel
theorem dX1_init_68 : decode cX1_init 68 = .ok (.newarray .int, 2) := by decide +kernel
theorem dX1_init_70 : decode cX1_init 70 = .ok (.putfield 45, 3) := by decide +kernel
theorem dX1_init_73 : decode cX1_init 73 = .ok (.aload_n 0, 1) := by decide +kernel
theorem dX1_init_74 : decode cX1_init 74 = .ok (.bipush 40, 2) := by decide +kernel
theorem dX1_init_76 : decode cX1_init 76 = .ok (.newarray .int, 2) := by decide +kernel
theorem dX1_init_78 : decode cX1_init 78 = .ok (.putfield 48, 3) := by decide +kernel
theorem dX1_init_81 : decode cX1_init 81 = .ok (.aload_n 0, 1) := by decide +kernel
theorem dX1_init_82 : decode cX1_init 82 = .ok (.bipush 40, 2) := by decide +kernel
theorem dX1_init_84 : decode cX1_init 84 = .ok (.newarray .int, 2) := by decide +kernel
theorem dX1_init_86 : decode cX1_init 86 = .ok (.putfield 51, 3) := by decide +kernel
theorem dX1_init_89 : decode cX1_init 89 = .ok (.aload_n 0, 1) := by decide +kernel
theorem dX1_init_90 : decode cX1_init 90 = .ok (.bipush 40, 2) := by decide +kernel
theorem dX1_init_92 : decode cX1_init 92 = .ok (.newarray .int, 2) := by decide +kernel
theorem dX1_init_94 : decode cX1_init 94 = .ok (.putfield 54, 3) := by decide +kernel
theorem dX1_init_97 : decode cX1_init 97 = .ok (.aload_n 0, 1) := by decide +kernel
theorem dX1_init_98 : decode cX1_init 98 = .ok (.bipush 40, 2) := by decide +kernel
theorem dX1_init_100 : decode cX1_init 100 = .ok (.newarray .boolean, 2) := by decide +kernel
theorem dX1_init_102 : decode cX1_init 102 = .ok (.putfield 57, 3) := by decide +kernel
theorem dX1_init_105 : decode cX1_init 105 = .ok (.aload_n 0, 1) := by decide +kernel
theorem dX1_init_106 : decode cX1_init 106 = .ok (.bipush 40, 2) := by decide +kernel
theorem dX1_init_108 : decode cX1_init 108 = .ok (.newarray .boolean, 2) := by decide +kernel
theorem dX1_init_110 : decode cX1_init 110 = .ok (.putfield 61, 3) := by decide +kernel
theorem dX1_init_113 : decode cX1_init 113 = .ok (.aload_n 0, 1) := by decide +kernel
theorem dX1_init_114 : decode cX1_init 114 = .ok (.bipush 96, 2) := by decide +kernel
theorem dX1_init_116 : decode cX1_init 116 = .ok (.newarray .int, 2) := by decide +kernel
theorem dX1_init_118 : decode cX1_init 118 = .ok (.putfield 64, 3) := by decide +kernel
theorem dX1_init_121 : decode cX1_init 121 = .ok (.aload_n 0, 1) := by decide +kernel
theorem dX1_init_122 : decode cX1_init 122 = .ok (.bipush 8, 2) := by decide +kernel
theorem dX1_init_124 : decode cX1_init 124 = .ok (.newarray .int, 2) := by decide +kernel
theorem dX1_init_126 : decode cX1_init 126 = .ok (.putfield 67, 3) := by decide +kernel
theorem dX1_init_129 : decode cX1_init 129 = .ok (.aload_n 0, 1) := by decide +kernel
theorem dX1_init_130 : decode cX1_init 130 = .ok (.bipush 16, 2) := by decide +kernel
theorem dX1_init_132 : decode cX1_init 132 = .ok (.newarray .int, 2) := by decide +kernel
theorem dX1_init_134 : decode cX1_init 134 = .ok (.putfield 70, 3) := by decide +kernel
theorem dX1_init_137 : decode cX1_init 137 = .ok (.aload_n 0, 1) := by decide +kernel
theorem dX1_init_138 : decode cX1_init 138 = .ok (.bipush 40, 2) := by decide +kernel
theorem dX1_init_140 : decode cX1_init 140 = .ok (.newarray .int, 2) := by decide +kernel
theorem dX1_init_142 : decode cX1_init 142 = .ok (.putfield 73, 3) := by decide +kernel
theorem dX1_init_145 : decode cX1_init 145 = .ok (.aload_n 0, 1) := by decide +kernel
theorem dX1_init_146 : decode cX1_init 146 = .ok (.bipush 40, 2) := by decide +kernel
theorem dX1_init_148 : decode cX1_init 148 = .ok (.newarray .int, 2) := by decide +kernel
theorem dX1_init_150 : decode cX1_init 150 = .ok (.putfield 76, 3) := by decide +kernel
theorem dX1_init_153 : decode cX1_init 153 = .ok (.aload_n 0, 1) := by decide +kernel
theorem dX1_init_154 : decode cX1_init 154 = .ok (.bipush 40, 2) := by decide +kernel
theorem dX1_init_156 : decode cX1_init 156 = .ok (.newarray .int, 2) := by decide +kernel
theorem dX1_init_158 : decode cX1_init 158 = .ok (.putfield 79, 3) := by decide +kernel
theorem dX1_init_161 : decode cX1_init 161 = .ok (.aload_n 0, 1) := by decide +kernel
theorem dX1_init_162 : decode cX1_init 162 = .ok (.bipush 40, 2) := by decide +kernel
theorem dX1_init_164 : decode cX1_init 164 = .ok (.newarray .int, 2) := by decide +kernel
theorem dX1_init_166 : decode cX1_init 166 = .ok (.putfield 82, 3) := by decide +kernel
theorem dX1_init_169 : decode cX1_init 169 = .ok (.aload_n 0, 1) := by decide +kernel
theorem dX1_init_170 : decode cX1_init 170 = .ok (.bipush 40, 2) := by decide +kernel
theorem dX1_init_172 : decode cX1_init 172 = .ok (.newarray .int, 2) := by decide +kernel
theorem dX1_init_174 : decode cX1_init 174 = .ok (.putfield 85, 3) := by decide +kernel
theorem dX1_init_177 : decode cX1_init 177 = .ok (.aload_n 0, 1) := by decide +kernel
theorem dX1_init_178 : decode cX1_init 178 = .ok (.bipush 40, 2) := by decide +kernel
theorem dX1_init_180 : decode cX1_init 180 = .ok (.newarray .int, 2) := by decide +kernel
theorem dX1_init_182 : decode cX1_init 182 = .ok (.putfield 88, 3) := by decide +kernel
theorem dX1_init_185 : decode cX1_init 185 = .ok (.aload_n 0, 1) := by decide +kernel
theorem dX1_init_186 : decode cX1_init 186 = .ok (.bipush 6, 2) := by decide +kernel
theorem dX1_init_188 : decode cX1_init 188 = .ok (.newarray .int, 2) := by decide +kernel
theorem dX1_init_190 : decode cX1_init 190 = .ok (.putfield 91, 3) := by decide +kernel
theorem dX1_init_193 : decode cX1_init 193 = .ok (.aload_n 0, 1) := by decide +kernel
theorem dX1_init_194 : decode cX1_init 194 = .ok (.bipush 6, 2) := by decide +kernel
theorem dX1_init_196 : decode cX1_init 196 = .ok (.newarray .int, 2) := by decide +kernel
theorem dX1_init_198 : decode cX1_init 198 = .ok (.putfield 94, 3) := by decide +kernel
theorem dX1_init_201 : decode cX1_init 201 = .ok (.iconst 0, 1) := by decide +kernel
theorem dX1_init_202 : decode cX1_init 202 = .ok (.istore_n 1, 1) := by decide +kernel
theorem dX1_init_203 : decode cX1_init 203 = .ok (.iload_n 1, 1) := by decide +kernel
theorem dX1_init_204 : decode cX1_init 204 = .ok (.bipush 96, 2) := by decide +kernel
theorem dX1_init_206 : decode cX1_init 206 = .ok (.if_icmp .ge 16, 3) := by decide +kernel
theorem dX1_init_209 : decode cX1_init 209 = .ok (.aload_n 0, 1) := by decide +kernel
theorem dX1_init_210 : decode cX1_init 210 = .ok (.getfield 64, 3) := by decide +kernel
theorem dX1_init_213 : decode cX1_init 213 = .ok (.iload_n 1, 1) := by decide +kernel
theorem dX1_init_214 : decode cX1_init 214 = .ok (.iconst 5, 1) := by decide +kernel
theorem dX1_init_215 : decode cX1_init 215 = .ok (.iastore, 1) := by decide +kernel
theorem dX1_init_216 : decode cX1_init 216 = .ok (.iinc 1 1, 3) := by decide +kernel
theorem dX1_init_219 : decode cX1_init 219 = .ok (.goto (-16), 3) := by decide +kernel
theorem dX1_init_222 : decode cX1_init 222 = .ok (.return_, 1) := by decide +kernel
theorem dX1_thrown_0 : decode cX1_thrown 0 = .ok (.aload_n 0, 1) := by decide +kernel
theorem dX1_thrown_1 : decode cX1_thrown 1 = .ok (.getfield 28, 3) := by decide +kernel
theorem dX1_thrown_4 : decode cX1_thrown 4 = .ok (.ireturn, 1) := by decide +kernel
theorem dX1_fail_0 : decode cX1_fail 0 = .ok (.aload_n 0, 1) := by decide +kernel
theorem dX1_fail_1 : decode cX1_fail 1 = .ok (.iload_n 1, 1) := by decide +kernel
theorem dX1_fail_2 : decode cX1_fail 2 = .ok (.putfield 28, 3) := by decide +kernel
theorem dX1_fail_5 : decode cX1_fail 5 = .ok (.iconst 0, 1) := by decide +kernel
theorem dX1_fail_6 : decode cX1_fail 6 = .ok (.ireturn, 1) := by decide +kernel
theorem dX1_fine_0 : decode cX1_fine 0 = .ok (.aload_n 0, 1) := by decide +kernel
theorem dX1_fine_1 : decode cX1_fine 1 = .ok (.iconst 0, 1) := by decide +kernel
theorem dX1_fine_2 : decode cX1_fine 2 = .ok (.putfield 28, 3) := by decide +kernel
theorem dX1_fine_5 : decode cX1_fine 5 = .ok (.iload_n 1, 1) := by decide +kernel
theorem dX1_fine_6 : decode cX1_fine 6 = .ok (.ireturn, 1) := by decide +kernel
theorem dX1_out_0 : decode cX1_out 0 = .ok (.iload_n 1, 1) := by decide +kernel
theorem dX1_out_1 : decode cX1_out 1 = .ok (.iload_n 2, 1) := by decide +kernel
theorem dX1_out_2 : decode cX1_out 2 = .ok (.if_icmp .lt 8, 3) := by decide +kernel
theorem dX1_out_5 : decode cX1_out 5 = .ok (.iload_n 1, 1) := by decide +kernel
theorem dX1_out_6 : decode cX1_out 6 = .ok (.iload_n 3, 1) := by decide +kernel
theorem dX1_out_7 : decode cX1_out 7 = .ok (.if_icmp .le 7, 3) := by decide +kernel
theorem dX1_out_10 : decode cX1_out 10 = .ok (.iconst 1, 1) := by decide +kernel
theorem dX1_out_11 : decode cX1_out 11 = .ok (.goto 4, 3) := by decide +kernel
theorem dX1_out_14 : decode cX1_out 14 = .ok (.iconst 0, 1) := by decide +kernel
theorem dX1_out_15 : decode cX1_out 15 = .ok (.ireturn, 1) := by decide +kernel
theorem dX1_table_0 : decode cX1_table 0 = .ok (.aload_n 0, 1) := by decide +kernel
theorem dX1_table_1 : decode cX1_table 1 = .ok (.iload_n 1, 1) := by decide +kernel
theorem dX1_table_2 : decode cX1_table 2 = .ok (.iconst 0, 1) := by decide +kernel
theorem dX1_table_3 : decode cX1_table 3 = .ok (.iconst 2, 1) := by decide +kernel
theorem dX1_table_4 : decode cX1_table 4 = .ok (.invokevirtual 97, 3) := by decide +kernel
theorem dX1_table_7 : decode cX1_table 7 = .ok (.ifCond .ne 35, 3) := by decide +kernel
theorem dX1_table_10 : decode cX1_table 10 = .ok (.aload_n 0, 1) := by decide +kernel
theorem dX1_table_11 : decode cX1_table 11 = .ok (.iload_n 2, 1) := by decide +kernel
theorem dX1_table_12 : decode cX1_table 12 = .ok (.iconst 0, 1) := by decide +kernel
theorem dX1_table_13 : decode cX1_table 13 = .ok (.iconst 3, 1) := by decide +kernel
theorem dX1_table_14 : decode cX1_table 14 = .ok (.invokevirtual 97, 3) := by decide +kernel
theorem dX1_table_17 : decode cX1_table 17 = .ok (.ifCond .ne 25, 3) := by decide +kernel
theorem dX1_table_20 : decode cX1_table 20 = .ok (.aload_n 0, 1) := by decide +kernel
theorem dX1_table_21 : decode cX1_table 21 = .ok (.iload_n 3, 1) := by decide +kernel
theorem dX1_table_22 : decode cX1_table 22 = .ok (.iconst 0, 1) := by decide +kernel
theorem dX1_table_23 : decode cX1_table 23 = .ok (.bipush 7, 2) := by decide +kernel
theorem dX1_table_25 : decode cX1_table 25 = .ok (.invokevirtual 97, 3) := by decide +kernel
theorem dX1_table_28 : decode cX1_table 28 = .ok (.ifCond .ne 14, 3) := by decide +kernel
theorem dX1_table_31 : decode cX1_table 31 = .ok (.aload_n 0, 1) := by decide +kernel
theorem dX1_table_32 : decode cX1_table 32 = .ok (.iload 4, 2) := by decide +kernel
theorem dX1_table_34 : decode cX1_table 34 = .ok (.iconst 0, 1) := by decide +kernel
theorem dX1_table_35 : decode cX1_table 35 = .ok (.iconst 5, 1) := by decide +kernel
theorem dX1_table_36 : decode cX1_table 36 = .ok (.invokevirtual 97, 3) := by decide +kernel
theorem dX1_table_39 : decode cX1_table 39 = .ok (.ifCond .eq 9, 3) := by decide +kernel
theorem dX1_table_42 : decode cX1_table 42 = .ok (.aload_n 0, 1) := by decide +kernel
theorem dX1_table_43 : decode cX1_table 43 = .ok (.iconst 1, 1) := by decide +kernel
theorem dX1_table_44 : decode cX1_table 44 = .ok (.invokevirtual 101, 3) := by decide +kernel
theorem dX1_table_47 : decode cX1_table 47 = .ok (.ireturn, 1) := by decide +kernel
theorem dX1_table_48 : decode cX1_table 48 = .ok (.iload_n 1, 1) := by decide +kernel
theorem dX1_table_49 : decode cX1_table 49 = .ok (.bipush 32, 2) := by decide +kernel
theorem dX1_table_51 : decode cX1_table 51 = .ok (.imul, 1) := by decide +kernel
theorem dX1_table_52 : decode cX1_table 52 = .ok (.iload_n 2, 1) := by decide +kernel
theorem dX1_table_53 : decode cX1_table 53 = .ok (.bipush 8, 2) := by decide +kernel
theorem dX1_table_55 : decode cX1_table 55 = .ok (.imul, 1) := by decide +kernel
theorem dX1_table_56 : decode cX1_table 56 = .ok (.iadd, 1) := by decide +kernel
theorem dX1_table_57 : decode cX1_table 57 = .ok (.iload_n 3, 1) := by decide +kernel
theorem dX1_table_58 : decode cX1_table 58 = .ok (.iadd, 1) := by decide +kernel
theorem dX1_table_59 : decode cX1_table 59 = .ok (.istore 5, 2) := by decide +kernel
theorem dX1_table_61 : decode cX1_table 61 = .ok (.aload_n 0, 1) := by decide +kernel
theorem dX1_table_62 : decode cX1_table 62 = .ok (.getfield 64, 3) := by decide +kernel
theorem dX1_table_65 : decode cX1_table 65 = .ok (.iload 5, 2) := by decide +kernel
theorem dX1_table_67 : decode cX1_table 67 = .ok (.iaload, 1) := by decide +kernel
theorem dX1_table_68 : decode cX1_table 68 = .ok (.istore 6, 2) := by decide +kernel
theorem dX1_table_70 : decode cX1_table 70 = .ok (.aload_n 0, 1) := by decide +kernel
theorem dX1_table_71 : decode cX1_table 71 = .ok (.getfield 64, 3) := by decide +kernel
theorem dX1_table_74 : decode cX1_table 74 = .ok (.iload 5, 2) := by decide +kernel
theorem dX1_table_76 : decode cX1_table 76 = .ok (.iload 4, 2) := by decide +kernel
theorem dX1_table_78 : decode cX1_table 78 = .ok (.iastore, 1) := by decide +kernel
theorem dX1_table_79 : decode cX1_table 79 = .ok (.aload_n 0, 1) := by decide +kernel
theorem dX1_table_80 : decode cX1_table 80 = .ok (.iload 6, 2) := by decide +kernel
theorem dX1_table_82 : decode cX1_table 82 = .ok (.invokevirtual 105, 3) := by decide +kernel
theorem dX1_table_85 : decode cX1_table 85 = .ok (.ireturn, 1) := by decide +kernel
theorem dX1_namesA_0 : decode cX1_namesA 0 = .ok (.iload_n 1, 1) := by decide +kernel
theorem dX1_namesA_1 : decode cX1_namesA 1 = .ok (.bipush 7, 2) := by decide +kernel
theorem dX1_namesA_3 : decode cX1_namesA 3 = .ok (.if_icmp .le 9, 3) := by decide +kernel
theorem dX1_namesA_6 : decode cX1_namesA 6 = .ok (.iload_n 1, 1) := by decide +kernel
theorem dX1_namesA_7 : decode cX1_namesA 7 = .ok (.bipush 12, 2) := by decide +kernel
theorem dX1_namesA_9 : decode cX1_namesA 9 = .ok (.if_icmp .lt 9, 3) := by decide +kernel
theorem dX1_namesA_12 : decode cX1_namesA 12 = .ok (.iload_n 1, 1) := by decide +kernel
theorem dX1_namesA_13 : decode cX1_namesA 13 = .ok (.bipush 12, 2) := by decide +kernel
theorem dX1_namesA_15 : decode cX1_namesA 15 = .ok (.if_icmp .le 7, 3) := by decide +kernel
theorem dX1_namesA_18 : decode cX1_namesA 18 = .ok (.iconst 1, 1) := by decide +kernel
theorem dX1_namesA_19 : decode cX1_namesA 19 = .ok (.goto 4, 3) := by decide +kernel
theorem dX1_namesA_22 : decode cX1_namesA 22 = .ok (.iconst 0, 1) := by decide +kernel
theorem dX1_namesA_23 : decode cX1_namesA 23 = .ok (.ireturn, 1) := by decide +kernel
theorem dX1_namesB_0 : decode cX1_namesB 0 = .ok (.iload_n 1, 1) := by decide +kernel
theorem dX1_namesB_1 : decode cX1_namesB 1 = .ok (.bipush 7, 2) := by decide +kernel
theorem dX1_namesB_3 : decode cX1_namesB 3 = .ok (.if_icmp .le 13, 3) := by decide +kernel
theorem dX1_namesB_6 : decode cX1_namesB 6 = .ok (.iload_n 1, 1) := by decide +kernel
theorem dX1_namesB_7 : decode cX1_namesB 7 = .ok (.bipush 13, 2) := by decide +kernel
theorem dX1_namesB_9 : decode cX1_namesB 9 = .ok (.if_icmp .ge 7, 3) := by decide +kernel
theorem dX1_namesB_12 : decode cX1_namesB 12 = .ok (.iconst 1, 1) := by decide +kernel
theorem dX1_namesB_13 : decode cX1_namesB 13 = .ok (.goto 4, 3) := by decide +kernel
theorem dX1_namesB_16 : decode cX1_namesB 16 = .ok (.iconst 0, 1) := by decide +kernel
theorem dX1_namesB_17 : decode cX1_namesB 17 = .ok (.ireturn, 1) := by decide +kernel
theorem dX1_no_0 : decode cX1_no 0 = .ok (.iload_n 1, 1) := by decide +kernel
theorem dX1_no_1 : decode cX1_no 1 = .ok (.ifCond .lt 11, 3) := by decide +kernel
theorem dX1_no_4 : decode cX1_no 4 = .ok (.iload_n 1, 1) := by decide +kernel
theorem dX1_no_5 : decode cX1_no 5 = .ok (.aload_n 0, 1) := by decide +kernel
theorem dX1_no_6 : decode cX1_no 6 = .ok (.getfield 7, 3) := by decide +kernel
theorem dX1_no_9 : decode cX1_no 9 = .ok (.if_icmp .lt 7, 3) := by decide +kernel
theorem dX1_no_12 : decode cX1_no 12 = .ok (.iconst 1, 1) := by decide +kernel
theorem dX1_no_13 : decode cX1_no 13 = .ok (.goto 4, 3) := by decide +kernel
theorem dX1_no_16 : decode cX1_no 16 = .ok (.iconst 0, 1) := by decide +kernel
theorem dX1_no_17 : decode cX1_no 17 = .ok (.ireturn, 1) := by decide +kernel
theorem dX1_fits_0 : decode cX1_fits 0 = .ok (.aload_n 0, 1) := by decide +kernel
theorem dX1_fits_1 : decode cX1_fits 1 = .ok (.iload_n 1, 1) := by decide +kernel
theorem dX1_fits_2 : decode cX1_fits 2 = .ok (.iconst 0, 1) := by decide +kernel
theorem dX1_fits_3 : decode cX1_fits 3 = .ok (.bipush 14, 2) := by decide +kernel
theorem dX1_fits_5 : decode cX1_fits 5 = .ok (.invokevirtual 97, 3) := by decide +kernel
theorem dX1_fits_8 : decode cX1_fits 8 = .ok (.ifCond .ne 35, 3) := by decide +kernel
theorem dX1_fits_11 : decode cX1_fits 11 = .ok (.aload_n 0, 1) := by decide +kernel
theorem dX1_fits_12 : decode cX1_fits 12 = .ok (.iload_n 1, 1) := by decide +kernel
theorem dX1_fits_13 : decode cX1_fits 13 = .ok (.invokevirtual 108, 3) := by decide +kernel
theorem dX1_fits_16 : decode cX1_fits 16 = .ok (.ifCond .eq 11, 3) := by decide +kernel
theorem dX1_fits_19 : decode cX1_fits 19 = .ok (.aload_n 0, 1) := by decide +kernel
theorem dX1_fits_20 : decode cX1_fits 20 = .ok (.iload_n 2, 1) := by decide +kernel
theorem dX1_fits_21 : decode cX1_fits 21 = .ok (.invokevirtual 112, 3) := by decide +kernel
theorem dX1_fits_24 : decode cX1_fits 24 = .ok (.ifCond .ne 19, 3) := by decide +kernel
theorem dX1_fits_27 : decode cX1_fits 27 = .ok (.aload_n 0, 1) := by decide +kernel
theorem dX1_fits_28 : decode cX1_fits 28 = .ok (.iload_n 1, 1) := by decide +kernel
theorem dX1_fits_29 : decode cX1_fits 29 = .ok (.invokevirtual 115, 3) := by decide +kernel
theorem dX1_fits_32 : decode cX1_fits 32 = .ok (.ifCond .eq 13, 3) := by decide +kernel
theorem dX1_fits_35 : decode cX1_fits 35 = .ok (.aload_n 0, 1) := by decide +kernel
theorem dX1_fits_36 : decode cX1_fits 36 = .ok (.iload_n 3, 1) := by decide +kernel
theorem dX1_fits_37 : decode cX1_fits 37 = .ok (.invokevirtual 112, 3) := by decide +kernel
theorem dX1_fits_40 : decode cX1_fits 40 = .ok (.ifCond .eq 5, 3) := by decide +kernel
theorem dX1_fits_43 : decode cX1_fits 43 = .ok (.iconst 0, 1) := by decide +kernel
theorem dX1_fits_44 : decode cX1_fits 44 = .ok (.ireturn, 1) := by decide +kernel
theorem dX1_fits_45 : decode cX1_fits 45 = .ok (.iload_n 1, 1) := by decide +kernel
theorem dX1_fits_46 : decode cX1_fits 46 = .ok (.bipush 6, 2) := by decide +kernel
theorem dX1_fits_48 : decode cX1_fits 48 = .ok (.if_icmp .ne 19, 3) := by decide +kernel
theorem dX1_fits_51 : decode cX1_fits 51 = .ok (.aload_n 0, 1) := by decide +kernel
theorem dX1_fits_52 : decode cX1_fits 52 = .ok (.iload_n 2, 1) := by decide +kernel
theorem dX1_fits_53 : decode cX1_fits 53 = .ok (.iconst 0, 1) := by decide +kernel
theorem dX1_fits_54 : decode cX1_fits 54 = .ok (.iconst 2, 1) := by decide +kernel
theorem dX1_fits_55 : decode cX1_fits 55 = .ok (.invokevirtual 97, 3) := by decide +kernel
theorem dX1_fits_58 : decode cX1_fits 58 = .ok (.ifCond .ne 7, 3) := by decide +kernel
theorem dX1_fits_61 : decode cX1_fits 61 = .ok (.iconst 1, 1) := by decide +kernel
theorem dX1_fits_62 : decode cX1_fits 62 = .ok (.goto 4, 3) := by decide +kernel
theorem dX1_fits_65 : decode cX1_fits 65 = .ok (.iconst 0, 1) := by decide +kernel
theorem dX1_fits_66 : decode cX1_fits 66 = .ok (.ireturn, 1) := by decide +kernel
theorem dX1_fits_67 : decode cX1_fits 67 = .ok (.iload_n 1, 1) := by decide +kernel
theorem dX1_fits_68 : decode cX1_fits 68 = .ok (.bipush 14, 2) := by decide +kernel
theorem dX1_fits_70 : decode cX1_fits 70 = .ok (.if_icmp .ne 47, 3) := by decide +kernel
theorem dX1_fits_73 : decode cX1_fits 73 = .ok (.iload_n 3, 1) := by decide +kernel
theorem dX1_fits_74 : decode cX1_fits 74 = .ok (.iconst 1, 1) := by decide +kernel
theorem dX1_fits_75 : decode cX1_fits 75 = .ok (.if_icmp .eq 13, 3) := by decide +kernel
theorem dX1_fits_78 : decode cX1_fits 78 = .ok (.iload_n 3, 1) := by decide +kernel
theorem dX1_fits_79 : decode cX1_fits 79 = .ok (.iconst 4, 1) := by decide +kernel
theorem dX1_fits_80 : decode cX1_fits 80 = .ok (.if_icmp .eq 8, 3) := by decide +kernel
theorem dX1_fits_83 : decode cX1_fits 83 = .ok (.iload_n 3, 1) := by decide +kernel
theorem dX1_fits_84 : decode cX1_fits 84 = .ok (.iconst 5, 1) := by decide +kernel
theorem dX1_fits_85 : decode cX1_fits 85 = .ok (.if_icmp .ne 30, 3) := by decide +kernel
theorem dX1_fits_88 : decode cX1_fits 88 = .ok (.iload 4, 2) := by decide +kernel
theorem dX1_fits_90 : decode cX1_fits 90 = .ok (.ifCond .eq 21, 3) := by decide +kernel
theorem dX1_fits_93 : decode cX1_fits 93 = .ok (.iload 4, 2) := by decide +kernel
theorem dX1_fits_95 : decode cX1_fits 95 = .ok (.iconst 1, 1) := by decide +kernel
theorem dX1_fits_96 : decode cX1_fits 96 = .ok (.if_icmp .eq 15, 3) := by decide +kernel
theorem dX1_fits_99 : decode cX1_fits 99 = .ok (.iload 4, 2) := by decide +kernel
theorem dX1_fits_101 : decode cX1_fits 101 = .ok (.iconst 4, 1) := by decide +kernel
theorem dX1_fits_102 : decode cX1_fits 102 = .ok (.if_icmp .eq 9, 3) := by decide +kernel
theorem dX1_fits_105 : decode cX1_fits 105 = .ok (.iload 4, 2) := by decide +kernel
theorem dX1_fits_107 : decode cX1_fits 107 = .ok (.iconst 5, 1) := by decide +kernel
theorem dX1_fits_108 : decode cX1_fits 108 = .ok (.if_icmp .ne 7, 3) := by decide +kernel
theorem dX1_fits_111 : decode cX1_fits 111 = .ok (.iconst 1, 1) := by decide +kernel
theorem dX1_fits_112 : decode cX1_fits 112 = .ok (.goto 4, 3) := by decide +kernel
theorem dX1_fits_115 : decode cX1_fits 115 = .ok (.iconst 0, 1) := by decide +kernel
theorem dX1_fits_116 : decode cX1_fits 116 = .ok (.ireturn, 1) := by decide +kernel
theorem dX1_fits_117 : decode cX1_fits 117 = .ok (.aload_n 0, 1) := by decide +kernel
theorem dX1_fits_118 : decode cX1_fits 118 = .ok (.iload_n 1, 1) := by decide +kernel
theorem dX1_fits_119 : decode cX1_fits 119 = .ok (.invokevirtual 108, 3) := by decide +kernel
theorem dX1_fits_122 : decode cX1_fits 122 = .ok (.ifCond .ne 17, 3) := by decide +kernel
theorem dX1_fits_125 : decode cX1_fits 125 = .ok (.aload_n 0, 1) := by decide +kernel
theorem dX1_fits_126 : decode cX1_fits 126 = .ok (.iload_n 2, 1) := by decide +kernel
theorem dX1_fits_127 : decode cX1_fits 127 = .ok (.iconst 0, 1) := by decide +kernel
theorem dX1_fits_128 : decode cX1_fits 128 = .ok (.sipush 255, 3) := by decide +kernel
theorem dX1_fits_131 : decode cX1_fits 131 = .ok (.invokevirtual 97, 3) := by decide +kernel
theorem dX1_fits_134 : decode cX1_fits 134 = .ok (.ifCond .eq 5, 3) := by decide +kernel
theorem dX1_fits_137 : decode cX1_fits 137 = .ok (.iconst 0, 1) := by decide +kernel
theorem dX1_fits_138 : decode cX1_fits 138 = .ok (.ireturn, 1) := by decide +kernel
theorem dX1_fits_139 : decode cX1_fits 139 = .ok (.iload_n 1, 1) := by decide +kernel
theorem dX1_fits_140 : decode cX1_fits 140 = .ok (.iconst 3, 1) := by decide +kernel
theorem dX1_fits_141 : decode cX1_fits 141 = .ok (.if_icmp .ne 20, 3) := by decide +kernel
theorem dX1_fits_144 : decode cX1_fits 144 = .ok (.aload_n 0, 1) := by decide +kernel
theorem dX1_fits_145 : decode cX1_fits 145 = .ok (.iload_n 3, 1) := by decide +kernel
theorem dX1_fits_146 : decode cX1_fits 146 = .ok (.iconst 0, 1) := by decide +kernel
theorem dX1_fits_147 : decode cX1_fits 147 = .ok (.bipush 99, 2) := by decide +kernel
theorem dX1_fits_149 : decode cX1_fits 149 = .ok (.invokevirtual 97, 3) := by decide +kernel
theorem dX1_fits_152 : decode cX1_fits 152 = .ok (.ifCond .ne 7, 3) := by decide +kernel
theorem dX1_fits_155 : decode cX1_fits 155 = .ok (.iconst 1, 1) := by decide +kernel
theorem dX1_fits_156 : decode cX1_fits 156 = .ok (.goto 4, 3) := by decide +kernel
theorem dX1_fits_159 : decode cX1_fits 159 = .ok (.iconst 0, 1) := by decide +kernel
theorem dX1_fits_160 : decode cX1_fits 160 = .ok (.ireturn, 1) := by decide +kernel
theorem dX1_fits_161 : decode cX1_fits 161 = .ok (.iload_n 1, 1) := by decide +kernel
theorem dX1_fits_162 : decode cX1_fits 162 = .ok (.iconst 5, 1) := by decide +kernel
theorem dX1_fits_163 : decode cX1_fits 163 = .ok (.if_icmp .ne 14, 3) := by decide +kernel
theorem dX1_fits_166 : decode cX1_fits 166 = .ok (.aload_n 0, 1) := by decide +kernel
theorem dX1_fits_167 : decode cX1_fits 167 = .ok (.iload_n 3, 1) := by decide +kernel
theorem dX1_fits_168 : decode cX1_fits 168 = .ok (.iconst 0, 1) := by decide +kernel
theorem dX1_fits_169 : decode cX1_fits 169 = .ok (.bipush 7, 2) := by decide +kernel
theorem dX1_fits_171 : decode cX1_fits 171 = .ok (.invokevirtual 97, 3) := by decide +kernel
theorem dX1_fits_174 : decode cX1_fits 174 = .ok (.ifCond .ne 7, 3) := by decide +kernel
theorem dX1_fits_177 : decode cX1_fits 177 = .ok (.iconst 1, 1) := by decide +kernel
theorem dX1_fits_178 : decode cX1_fits 178 = .ok (.goto 4, 3) := by decide +kernel
theorem dX1_fits_181 : decode cX1_fits 181 = .ok (.iconst 0, 1) := by decide +kernel
theorem dX1_fits_182 : decode cX1_fits 182 = .ok (.ireturn, 1) := by decide +kernel
theorem dX1_policy_0 : decode cX1_policy 0 = .ok (.aload_n 0, 1) := by decide +kernel
theorem dX1_policy_1 : decode cX1_policy 1 = .ok (.iload_n 1, 1) := by decide +kernel
theorem dX1_policy_2 : decode cX1_policy 2 = .ok (.iload_n 2, 1) := by decide +kernel
theorem dX1_policy_3 : decode cX1_policy 3 = .ok (.iload_n 3, 1) := by decide +kernel
theorem dX1_policy_4 : decode cX1_policy 4 = .ok (.iload 4, 2) := by decide +kernel
theorem dX1_policy_6 : decode cX1_policy 6 = .ok (.invokevirtual 118, 3) := by decide +kernel
theorem dX1_policy_9 : decode cX1_policy 9 = .ok (.ifCond .ne 9, 3) := by decide +kernel
theorem dX1_policy_12 : decode cX1_policy 12 = .ok (.aload_n 0, 1) := by decide +kernel
theorem dX1_policy_13 : decode cX1_policy 13 = .ok (.iconst 1, 1) := by decide +kernel
theorem dX1_policy_14 : decode cX1_policy 14 = .ok (.invokevirtual 101, 3) := by decide +kernel
theorem dX1_policy_17 : decode cX1_policy 17 = .ok (.ireturn, 1) := by decide +kernel
theorem dX1_policy_18 : decode cX1_policy 18 = .ok (.aload_n 0, 1) := by decide +kernel
theorem dX1_policy_19 : decode cX1_policy 19 = .ok (.iload_n 1, 1) := by decide +kernel
theorem dX1_policy_20 : decode cX1_policy 20 = .ok (.invokevirtual 108, 3) := by decide +kernel
theorem dX1_policy_23 : decode cX1_policy 23 = .ok (.istore 5, 2) := by decide +kernel
theorem dX1_policy_25 : decode cX1_policy 25 = .ok (.aload_n 0, 1) := by decide +kernel
theorem dX1_policy_26 : decode cX1_policy 26 = .ok (.iload_n 1, 1) := by decide +kernel
theorem dX1_policy_27 : decode cX1_policy 27 = .ok (.invokevirtual 115, 3) := by decide +kernel
theorem dX1_policy_30 : decode cX1_policy 30 = .ok (.istore 6, 2) := by decide +kernel
theorem dX1_policy_32 : decode cX1_policy 32 = .ok (.iload 5, 2) := by decide +kernel
theorem dX1_policy_34 : decode cX1_policy 34 = .ok (.ifCond .eq 12, 3) := by decide +kernel
theorem dX1_policy_37 : decode cX1_policy 37 = .ok (.aload_n 0, 1) := by decide +kernel
theorem dX1_policy_38 : decode cX1_policy 38 = .ok (.getfield 57, 3) := by decide +kernel
theorem dX1_policy_41 : decode cX1_policy 41 = .ok (.iload_n 2, 1) := by decide +kernel
theorem dX1_policy_42 : decode cX1_policy 42 = .ok (.baload, 1) := by decide +kernel
theorem dX1_policy_43 : decode cX1_policy 43 = .ok (.ifCond .ne 32, 3) := by decide +kernel
theorem dX1_policy_46 : decode cX1_policy 46 = .ok (.iload 6, 2) := by decide +kernel
theorem dX1_policy_48 : decode cX1_policy 48 = .ok (.ifCond .eq 12, 3) := by decide +kernel
theorem dX1_policy_51 : decode cX1_policy 51 = .ok (.aload_n 0, 1) := by decide +kernel
theorem dX1_policy_52 : decode cX1_policy 52 = .ok (.getfield 57, 3) := by decide +kernel
theorem dX1_policy_55 : decode cX1_policy 55 = .ok (.iload_n 3, 1) := by decide +kernel
theorem dX1_policy_56 : decode cX1_policy 56 = .ok (.baload, 1) := by decide +kernel
theorem dX1_policy_57 : decode cX1_policy 57 = .ok (.ifCond .ne 18, 3) := by decide +kernel
theorem dX1_policy_60 : decode cX1_policy 60 = .ok (.iload 5, 2) := by decide +kernel
theorem dX1_policy_62 : decode cX1_policy 62 = .ok (.ifCond .eq 19, 3) := by decide +kernel
theorem dX1_policy_65 : decode cX1_policy 65 = .ok (.iload 6, 2) := by decide +kernel
theorem dX1_policy_67 : decode cX1_policy 67 = .ok (.ifCond .eq 14, 3) := by decide +kernel
theorem dX1_policy_70 : decode cX1_policy 70 = .ok (.iload_n 2, 1) := by decide +kernel
theorem dX1_policy_71 : decode cX1_policy 71 = .ok (.iload_n 3, 1) := by decide +kernel
theorem dX1_policy_72 : decode cX1_policy 72 = .ok (.if_icmp .ne 9, 3) := by decide +kernel
theorem dX1_policy_75 : decode cX1_policy 75 = .ok (.aload_n 0, 1) := by decide +kernel
theorem dX1_policy_76 : decode cX1_policy 76 = .ok (.iconst 2, 1) := by decide +kernel
theorem dX1_policy_77 : decode cX1_policy 77 = .ok (.invokevirtual 101, 3) := by decide +kernel
theorem dX1_policy_80 : decode cX1_policy 80 = .ok (.ireturn, 1) := by decide +kernel
theorem dX1_policy_81 : decode cX1_policy 81 = .ok (.iload 5, 2) := by decide +kernel
theorem dX1_policy_83 : decode cX1_policy 83 = .ok (.ifCond .eq 12, 3) := by decide +kernel
theorem dX1_policy_86 : decode cX1_policy 86 = .ok (.aload_n 0, 1) := by decide +kernel
theorem dX1_policy_87 : decode cX1_policy 87 = .ok (.getfield 51, 3) := by decide +kernel
theorem dX1_policy_90 : decode cX1_policy 90 = .ok (.iload_n 2, 1) := by decide +kernel
theorem dX1_policy_91 : decode cX1_policy 91 = .ok (.iaload, 1) := by decide +kernel
theorem dX1_policy_92 : decode cX1_policy 92 = .ok (.goto 4, 3) := by decide +kernel
theorem dX1_policy_95 : decode cX1_policy 95 = .ok (.iconst 0, 1) := by decide +kernel
theorem dX1_policy_96 : decode cX1_policy 96 = .ok (.istore 7, 2) := by decide +kernel
theorem dX1_policy_98 : decode cX1_policy 98 = .ok (.iload 6, 2) := by decide +kernel
theorem dX1_policy_100 : decode cX1_policy 100 = .ok (.ifCond .eq 22, 3) := by decide +kernel
theorem dX1_policy_103 : decode cX1_policy 103 = .ok (.aload_n 0, 1) := by decide +kernel
theorem dX1_policy_104 : decode cX1_policy 104 = .ok (.getfield 51, 3) := by decide +kernel
theorem dX1_policy_107 : decode cX1_policy 107 = .ok (.iload_n 3, 1) := by decide +kernel
theorem dX1_policy_108 : decode cX1_policy 108 = .ok (.iaload, 1) := by decide +kernel
theorem dX1_policy_109 : decode cX1_policy 109 = .ok (.iload 7, 2) := by decide +kernel
theorem dX1_policy_111 : decode cX1_policy 111 = .ok (.if_icmp .le 11, 3) := by decide +kernel
theorem dX1_policy_114 : decode cX1_policy 114 = .ok (.aload_n 0, 1) := by decide +kernel
theorem dX1_policy_115 : decode cX1_policy 115 = .ok (.getfield 51, 3) := by decide +kernel
theorem dX1_policy_118 : decode cX1_policy 118 = .ok (.iload_n 3, 1) := by decide +kernel
theorem dX1_policy_119 : decode cX1_policy 119 = .ok (.iaload, 1) := by decide +kernel
theorem dX1_policy_120 : decode cX1_policy 120 = .ok (.istore 7, 2) := by decide +kernel
theorem dX1_policy_122 : decode cX1_policy 122 = .ok (.iload 7, 2) := by decide +kernel
theorem dX1_policy_124 : decode cX1_policy 124 = .ok (.bipush 7, 2) := by decide +kernel
theorem dX1_policy_126 : decode cX1_policy 126 = .ok (.if_icmp .ne 9, 3) := by decide +kernel
theorem dX1_policy_129 : decode cX1_policy 129 = .ok (.aload_n 0, 1) := by decide +kernel
theorem dX1_policy_130 : decode cX1_policy 130 = .ok (.iconst 3, 1) := by decide +kernel
theorem dX1_policy_131 : decode cX1_policy 131 = .ok (.invokevirtual 101, 3) := by decide +kernel
theorem dX1_policy_134 : decode cX1_policy 134 = .ok (.ireturn, 1) := by decide +kernel
theorem dX1_policy_135 : decode cX1_policy 135 = .ok (.aload_n 0, 1) := by decide +kernel
theorem dX1_policy_136 : decode cX1_policy 136 = .ok (.getfield 7, 3) := by decide +kernel
theorem dX1_policy_139 : decode cX1_policy 139 = .ok (.bipush 40, 2) := by decide +kernel
theorem dX1_policy_141 : decode cX1_policy 141 = .ok (.if_icmp .ne 9, 3) := by decide +kernel
theorem dX1_policy_144 : decode cX1_policy 144 = .ok (.aload_n 0, 1) := by decide +kernel
theorem dX1_policy_145 : decode cX1_policy 145 = .ok (.iconst 4, 1) := by decide +kernel
theorem dX1_policy_146 : decode cX1_policy 146 = .ok (.invokevirtual 101, 3) := by decide +kernel
theorem dX1_policy_149 : decode cX1_policy 149 = .ok (.ireturn, 1) := by decide +kernel
theorem dX1_policy_150 : decode cX1_policy 150 = .ok (.aload_n 0, 1) := by decide +kernel
theorem dX1_policy_151 : decode cX1_policy 151 = .ok (.getfield 38, 3) := by decide +kernel
theorem dX1_policy_154 : decode cX1_policy 154 = .ok (.aload_n 0, 1) := by decide +kernel
theorem dX1_policy_155 : decode cX1_policy 155 = .ok (.getfield 7, 3) := by decide +kernel
theorem dX1_policy_158 : decode cX1_policy 158 = .ok (.iload_n 1, 1) := by decide +kernel
theorem dX1_policy_159 : decode cX1_policy 159 = .ok (.iastore, 1) := by decide +kernel
theorem dX1_policy_160 : decode cX1_policy 160 = .ok (.aload_n 0, 1) := by decide +kernel
theorem dX1_policy_161 : decode cX1_policy 161 = .ok (.getfield 42, 3) := by decide +kernel
theorem dX1_policy_164 : decode cX1_policy 164 = .ok (.aload_n 0, 1) := by decide +kernel
theorem dX1_policy_165 : decode cX1_policy 165 = .ok (.getfield 7, 3) := by decide +kernel
theorem dX1_policy_168 : decode cX1_policy 168 = .ok (.iload_n 2, 1) := by decide +kernel
theorem dX1_policy_169 : decode cX1_policy 169 = .ok (.iastore, 1) := by decide +kernel
theorem dX1_policy_170 : decode cX1_policy 170 = .ok (.aload_n 0, 1) := by decide +kernel
theorem dX1_policy_171 : decode cX1_policy 171 = .ok (.getfield 45, 3) := by decide +kernel
theorem dX1_policy_174 : decode cX1_policy 174 = .ok (.aload_n 0, 1) := by decide +kernel
theorem dX1_policy_175 : decode cX1_policy 175 = .ok (.getfield 7, 3) := by decide +kernel
theorem dX1_policy_178 : decode cX1_policy 178 = .ok (.iload_n 3, 1) := by decide +kernel
theorem dX1_policy_179 : decode cX1_policy 179 = .ok (.iastore, 1) := by decide +kernel
theorem dX1_policy_180 : decode cX1_policy 180 = .ok (.aload_n 0, 1) := by decide +kernel
theorem dX1_policy_181 : decode cX1_policy 181 = .ok (.getfield 48, 3) := by decide +kernel
theorem dX1_policy_184 : decode cX1_policy 184 = .ok (.aload_n 0, 1) := by decide +kernel
theorem dX1_policy_185 : decode cX1_policy 185 = .ok (.getfield 7, 3) := by decide +kernel
theorem dX1_policy_188 : decode cX1_policy 188 = .ok (.iload 4, 2) := by decide +kernel
theorem dX1_policy_190 : decode cX1_policy 190 = .ok (.iastore, 1) := by decide +kernel
theorem dX1_policy_191 : decode cX1_policy 191 = .ok (.aload_n 0, 1) := by decide +kernel
theorem dX1_policy_192 : decode cX1_policy 192 = .ok (.getfield 51, 3) := by decide +kernel
theorem dX1_policy_195 : decode cX1_policy 195 = .ok (.aload_n 0, 1) := by decide +kernel
theorem dX1_policy_196 : decode cX1_policy 196 = .ok (.getfield 7, 3) := by decide +kernel
theorem dX1_policy_199 : decode cX1_policy 199 = .ok (.iload 7, 2) := by decide +kernel
theorem dX1_policy_201 : decode cX1_policy 201 = .ok (.iconst 1, 1) := by decide +kernel
theorem dX1_policy_202 : decode cX1_policy 202 = .ok (.iadd, 1) := by decide +kernel
theorem dX1_policy_203 : decode cX1_policy 203 = .ok (.iastore, 1) := by decide +kernel
theorem dX1_policy_204 : decode cX1_policy 204 = .ok (.iload 5, 2) := by decide +kernel
theorem dX1_policy_206 : decode cX1_policy 206 = .ok (.ifCond .eq 10, 3) := by decide +kernel
theorem dX1_policy_209 : decode cX1_policy 209 = .ok (.aload_n 0, 1) := by decide +kernel
theorem dX1_policy_210 : decode cX1_policy 210 = .ok (.getfield 57, 3) := by decide +kernel
theorem dX1_policy_213 : decode cX1_policy 213 = .ok (.iload_n 2, 1) := by decide +kernel
theorem dX1_policy_214 : decode cX1_policy 214 = .ok (.iconst 1, 1) := by decide +kernel
theorem dX1_policy_215 : decode cX1_policy 215 = .ok (.bastore, 1) := by decide +kernel
theorem dX1_policy_216 : decode cX1_policy 216 = .ok (.iload 6, 2) := by decide +kernel
theorem dX1_policy_218 : decode cX1_policy 218 = .ok (.ifCond .eq 10, 3) := by decide +kernel
theorem dX1_policy_221 : decode cX1_policy 221 = .ok (.aload_n 0, 1) := by decide +kernel
theorem dX1_policy_222 : decode cX1_policy 222 = .ok (.getfield 57, 3) := by decide +kernel
theorem dX1_policy_225 : decode cX1_policy 225 = .ok (.iload_n 3, 1) := by decide +kernel
theorem dX1_policy_226 : decode cX1_policy 226 = .ok (.iconst 1, 1) := by decide +kernel
theorem dX1_policy_227 : decode cX1_policy 227 = .ok (.bastore, 1) := by decide +kernel
theorem dX1_policy_228 : decode cX1_policy 228 = .ok (.aload_n 0, 1) := by decide +kernel
theorem dX1_policy_229 : decode cX1_policy 229 = .ok (.dup, 1) := by decide +kernel
theorem dX1_policy_230 : decode cX1_policy 230 = .ok (.getfield 7, 3) := by decide +kernel
theorem dX1_policy_233 : decode cX1_policy 233 = .ok (.iconst 1, 1) := by decide +kernel
theorem dX1_policy_234 : decode cX1_policy 234 = .ok (.iadd, 1) := by decide +kernel
theorem dX1_policy_235 : decode cX1_policy 235 = .ok (.putfield 7, 3) := by decide +kernel
theorem dX1_policy_238 : decode cX1_policy 238 = .ok (.aload_n 0, 1) := by decide +kernel
theorem dX1_policy_239 : decode cX1_policy 239 = .ok (.aload_n 0, 1) := by decide +kernel
theorem dX1_policy_240 : decode cX1_policy 240 = .ok (.getfield 7, 3) := by decide +kernel
theorem dX1_policy_243 : decode cX1_policy 243 = .ok (.iconst 1, 1) := by decide +kernel
theorem dX1_policy_244 : decode cX1_policy 244 = .ok (.isub, 1) := by decide +kernel
theorem dX1_policy_245 : decode cX1_policy 245 = .ok (.invokevirtual 105, 3) := by decide +kernel
theorem dX1_policy_248 : decode cX1_policy 248 = .ok (.ireturn, 1) := by decide +kernel
theorem dX1_install_0 : decode cX1_install 0 = .ok (.aload_n 0, 1) := by decide +kernel
theorem dX1_install_1 : decode cX1_install 1 = .ok (.iload_n 1, 1) := by decide +kernel
theorem dX1_install_2 : decode cX1_install 2 = .ok (.invokevirtual 112, 3) := by decide +kernel
theorem dX1_install_5 : decode cX1_install 5 = .ok (.ifCond .eq 9, 3) := by decide +kernel
theorem dX1_install_8 : decode cX1_install 8 = .ok (.aload_n 0, 1) := by decide +kernel
theorem dX1_install_9 : decode cX1_install 9 = .ok (.iconst 1, 1) := by decide +kernel
theorem dX1_install_10 : decode cX1_install 10 = .ok (.invokevirtual 101, 3) := by decide +kernel
theorem dX1_install_13 : decode cX1_install 13 = .ok (.ireturn, 1) := by decide +kernel
theorem dX1_install_14 : decode cX1_install 14 = .ok (.aload_n 0, 1) := by decide +kernel
theorem dX1_install_15 : decode cX1_install 15 = .ok (.iload_n 1, 1) := by decide +kernel
theorem dX1_install_16 : decode cX1_install 16 = .ok (.putfield 13, 3) := by decide +kernel
theorem dX1_install_19 : decode cX1_install 19 = .ok (.aload_n 0, 1) := by decide +kernel
theorem dX1_install_20 : decode cX1_install 20 = .ok (.iconst 0, 1) := by decide +kernel
theorem dX1_install_21 : decode cX1_install 21 = .ok (.putfield 34, 3) := by decide +kernel
theorem dX1_install_24 : decode cX1_install 24 = .ok (.iconst 0, 1) := by decide +kernel
theorem dX1_install_25 : decode cX1_install 25 = .ok (.istore_n 2, 1) := by decide +kernel
theorem dX1_install_26 : decode cX1_install 26 = .ok (.iload_n 2, 1) := by decide +kernel
theorem dX1_install_27 : decode cX1_install 27 = .ok (.bipush 40, 2) := by decide +kernel
theorem dX1_install_29 : decode cX1_install 29 = .ok (.if_icmp .ge 16, 3) := by decide +kernel
theorem dX1_install_32 : decode cX1_install 32 = .ok (.aload_n 0, 1) := by decide +kernel
theorem dX1_install_33 : decode cX1_install 33 = .ok (.getfield 54, 3) := by decide +kernel
theorem dX1_install_36 : decode cX1_install 36 = .ok (.iload_n 2, 1) := by decide +kernel
theorem dX1_install_37 : decode cX1_install 37 = .ok (.iconst 0, 1) := by decide +kernel
theorem dX1_install_38 : decode cX1_install 38 = .ok (.iastore, 1) := by decide +kernel
theorem dX1_install_39 : decode cX1_install 39 = .ok (.iinc 2 1, 3) := by decide +kernel
theorem dX1_install_42 : decode cX1_install 42 = .ok (.goto (-16), 3) := by decide +kernel
theorem dX1_install_45 : decode cX1_install 45 = .ok (.aload_n 0, 1) := by decide +kernel
theorem dX1_install_46 : decode cX1_install 46 = .ok (.iconst 0, 1) := by decide +kernel
theorem dX1_install_47 : decode cX1_install 47 = .ok (.invokevirtual 105, 3) := by decide +kernel
theorem dX1_install_50 : decode cX1_install 50 = .ok (.ireturn, 1) := by decide +kernel
theorem dX1_suggest_0 : decode cX1_suggest 0 = .ok (.aload_n 0, 1) := by decide +kernel
theorem dX1_suggest_1 : decode cX1_suggest 1 = .ok (.getfield 73, 3) := by decide +kernel
theorem dX1_suggest_4 : decode cX1_suggest 4 = .ok (.iload_n 1, 1) := by decide +kernel
theorem dX1_suggest_5 : decode cX1_suggest 5 = .ok (.iload_n 2, 1) := by decide +kernel
theorem dX1_suggest_6 : decode cX1_suggest 6 = .ok (.iastore, 1) := by decide +kernel
theorem dX1_suggest_7 : decode cX1_suggest 7 = .ok (.aload_n 0, 1) := by decide +kernel
theorem dX1_suggest_8 : decode cX1_suggest 8 = .ok (.getfield 82, 3) := by decide +kernel
theorem dX1_suggest_11 : decode cX1_suggest 11 = .ok (.iload_n 1, 1) := by decide +kernel
theorem dX1_suggest_12 : decode cX1_suggest 12 = .ok (.iconst (-1), 1) := by decide +kernel
theorem dX1_suggest_13 : decode cX1_suggest 13 = .ok (.iastore, 1) := by decide +kernel
theorem dX1_suggest_14 : decode cX1_suggest 14 = .ok (.return_, 1) := by decide +kernel
theorem dX1_same_0 : decode cX1_same 0 = .ok (.aload_n 0, 1) := by decide +kernel
theorem dX1_same_1 : decode cX1_same 1 = .ok (.getfield 73, 3) := by decide +kernel
theorem dX1_same_4 : decode cX1_same 4 = .ok (.iload_n 1, 1) := by decide +kernel
theorem dX1_same_5 : decode cX1_same 5 = .ok (.aload_n 0, 1) := by decide +kernel
theorem dX1_same_6 : decode cX1_same 6 = .ok (.getfield 73, 3) := by decide +kernel
theorem dX1_same_9 : decode cX1_same 9 = .ok (.iload_n 2, 1) := by decide +kernel
theorem dX1_same_10 : decode cX1_same 10 = .ok (.iaload, 1) := by decide +kernel
theorem dX1_same_11 : decode cX1_same 11 = .ok (.iastore, 1) := by decide +kernel
theorem dX1_same_12 : decode cX1_same 12 = .ok (.aload_n 0, 1) := by decide +kernel
theorem dX1_same_13 : decode cX1_same 13 = .ok (.getfield 76, 3) := by decide +kernel
theorem dX1_same_16 : decode cX1_same 16 = .ok (.iload_n 1, 1) := by decide +kernel
theorem dX1_same_17 : decode cX1_same 17 = .ok (.aload_n 0, 1) := by decide +kernel
theorem dX1_same_18 : decode cX1_same 18 = .ok (.getfield 76, 3) := by decide +kernel
theorem dX1_same_21 : decode cX1_same 21 = .ok (.iload_n 2, 1) := by decide +kernel
theorem dX1_same_22 : decode cX1_same 22 = .ok (.iaload, 1) := by decide +kernel
theorem dX1_same_23 : decode cX1_same 23 = .ok (.iastore, 1) := by decide +kernel
theorem dX1_same_24 : decode cX1_same 24 = .ok (.aload_n 0, 1) := by decide +kernel
theorem dX1_same_25 : decode cX1_same 25 = .ok (.getfield 79, 3) := by decide +kernel
theorem dX1_same_28 : decode cX1_same 28 = .ok (.iload_n 1, 1) := by decide +kernel
theorem dX1_same_29 : decode cX1_same 29 = .ok (.aload_n 0, 1) := by decide +kernel
theorem dX1_same_30 : decode cX1_same 30 = .ok (.getfield 79, 3) := by decide +kernel
theorem dX1_same_33 : decode cX1_same 33 = .ok (.iload_n 2, 1) := by decide +kernel
theorem dX1_same_34 : decode cX1_same 34 = .ok (.iaload, 1) := by decide +kernel
theorem dX1_same_35 : decode cX1_same 35 = .ok (.iastore, 1) := by decide +kernel
theorem dX1_same_36 : decode cX1_same 36 = .ok (.aload_n 0, 1) := by decide +kernel
theorem dX1_same_37 : decode cX1_same 37 = .ok (.getfield 82, 3) := by decide +kernel
theorem dX1_same_40 : decode cX1_same 40 = .ok (.iload_n 1, 1) := by decide +kernel
theorem dX1_same_41 : decode cX1_same 41 = .ok (.aload_n 0, 1) := by decide +kernel
theorem dX1_same_42 : decode cX1_same 42 = .ok (.getfield 82, 3) := by decide +kernel
theorem dX1_same_45 : decode cX1_same 45 = .ok (.iload_n 2, 1) := by decide +kernel
theorem dX1_same_46 : decode cX1_same 46 = .ok (.iaload, 1) := by decide +kernel
theorem dX1_same_47 : decode cX1_same 47 = .ok (.iastore, 1) := by decide +kernel
theorem dX1_same_48 : decode cX1_same 48 = .ok (.return_, 1) := by decide +kernel
theorem dX1_in_0 : decode cX1_in 0 = .ok (.iload_n 1, 1) := by decide +kernel
theorem dX1_in_1 : decode cX1_in 1 = .ok (.iload_n 2, 1) := by decide +kernel
theorem dX1_in_2 : decode cX1_in 2 = .ok (.ishr, 1) := by decide +kernel
theorem dX1_in_3 : decode cX1_in 3 = .ok (.iconst 1, 1) := by decide +kernel
theorem dX1_in_4 : decode cX1_in 4 = .ok (.iand, 1) := by decide +kernel
theorem dX1_in_5 : decode cX1_in 5 = .ok (.iconst 1, 1) := by decide +kernel
theorem dX1_in_6 : decode cX1_in 6 = .ok (.if_icmp .ne 7, 3) := by decide +kernel
theorem dX1_in_9 : decode cX1_in 9 = .ok (.iconst 1, 1) := by decide +kernel
theorem dX1_in_10 : decode cX1_in 10 = .ok (.goto 4, 3) := by decide +kernel
theorem dX1_in_13 : decode cX1_in 13 = .ok (.iconst 0, 1) := by decide +kernel
theorem dX1_in_14 : decode cX1_in 14 = .ok (.ireturn, 1) := by decide +kernel
theorem dX1_plain_0 : decode cX1_plain 0 = .ok (.aload_n 0, 1) := by decide +kernel
theorem dX1_plain_1 : decode cX1_plain 1 = .ok (.getfield 38, 3) := by decide +kernel
theorem dX1_plain_4 : decode cX1_plain 4 = .ok (.iload_n 1, 1) := by decide +kernel
theorem dX1_plain_5 : decode cX1_plain 5 = .ok (.iaload, 1) := by decide +kernel
theorem dX1_plain_6 : decode cX1_plain 6 = .ok (.istore 4, 2) := by decide +kernel
theorem dX1_plain_8 : decode cX1_plain 8 = .ok (.aload_n 0, 1) := by decide +kernel
theorem dX1_plain_9 : decode cX1_plain 9 = .ok (.getfield 42, 3) := by decide +kernel
theorem dX1_plain_12 : decode cX1_plain 12 = .ok (.iload_n 1, 1) := by decide +kernel
theorem dX1_plain_13 : decode cX1_plain 13 = .ok (.iaload, 1) := by decide +kernel
theorem dX1_plain_14 : decode cX1_plain 14 = .ok (.istore 5, 2) := by decide +kernel
theorem dX1_plain_16 : decode cX1_plain 16 = .ok (.aload_n 0, 1) := by decide +kernel
theorem dX1_plain_17 : decode cX1_plain 17 = .ok (.getfield 45, 3) := by decide +kernel
theorem dX1_plain_20 : decode cX1_plain 20 = .ok (.iload_n 1, 1) := by decide +kernel
theorem dX1_plain_21 : decode cX1_plain 21 = .ok (.iaload, 1) := by decide +kernel
theorem dX1_plain_22 : decode cX1_plain 22 = .ok (.istore 6, 2) := by decide +kernel
theorem dX1_plain_24 : decode cX1_plain 24 = .ok (.aload_n 0, 1) := by decide +kernel
theorem dX1_plain_25 : decode cX1_plain 25 = .ok (.getfield 48, 3) := by decide +kernel
theorem dX1_plain_28 : decode cX1_plain 28 = .ok (.iload_n 1, 1) := by decide +kernel
theorem dX1_plain_29 : decode cX1_plain 29 = .ok (.iaload, 1) := by decide +kernel
theorem dX1_plain_30 : decode cX1_plain 30 = .ok (.istore 7, 2) := by decide +kernel
theorem dX1_plain_32 : decode cX1_plain 32 = .ok (.iload 4, 2) := by decide +kernel
theorem dX1_plain_34 : decode cX1_plain 34 = .ok (.bipush 6, 2) := by decide +kernel
theorem dX1_plain_36 : decode cX1_plain 36 = .ok (.if_icmp .ne 54, 3) := by decide +kernel
theorem dX1_plain_39 : decode cX1_plain 39 = .ok (.aload_n 0, 1) := by decide +kernel
theorem dX1_plain_40 : decode cX1_plain 40 = .ok (.getfield 64, 3) := by decide +kernel
theorem dX1_plain_43 : decode cX1_plain 43 = .ok (.iload 5, 2) := by decide +kernel
theorem dX1_plain_45 : decode cX1_plain 45 = .ok (.bipush 32, 2) := by decide +kernel
theorem dX1_plain_47 : decode cX1_plain 47 = .ok (.imul, 1) := by decide +kernel
theorem dX1_plain_48 : decode cX1_plain 48 = .ok (.aload_n 0, 1) := by decide +kernel
theorem dX1_plain_49 : decode cX1_plain 49 = .ok (.getfield 54, 3) := by decide +kernel
theorem dX1_plain_52 : decode cX1_plain 52 = .ok (.iload_n 1, 1) := by decide +kernel
theorem dX1_plain_53 : decode cX1_plain 53 = .ok (.iaload, 1) := by decide +kernel
theorem dX1_plain_54 : decode cX1_plain 54 = .ok (.bipush 8, 2) := by decide +kernel
theorem dX1_plain_56 : decode cX1_plain 56 = .ok (.imul, 1) := by decide +kernel
theorem dX1_plain_57 : decode cX1_plain 57 = .ok (.iadd, 1) := by decide +kernel
theorem dX1_plain_58 : decode cX1_plain 58 = .ok (.iload_n 2, 1) := by decide +kernel
theorem dX1_plain_59 : decode cX1_plain 59 = .ok (.iadd, 1) := by decide +kernel
theorem dX1_plain_60 : decode cX1_plain 60 = .ok (.iaload, 1) := by decide +kernel
theorem dX1_plain_61 : decode cX1_plain 61 = .ok (.istore 8, 2) := by decide +kernel
theorem dX1_plain_63 : decode cX1_plain 63 = .ok (.aload_n 0, 1) := by decide +kernel
theorem dX1_plain_64 : decode cX1_plain 64 = .ok (.iload_n 1, 1) := by decide +kernel
theorem dX1_plain_65 : decode cX1_plain 65 = .ok (.iload 8, 2) := by decide +kernel
theorem dX1_plain_67 : decode cX1_plain 67 = .ok (.iconst 4, 1) := by decide +kernel
theorem dX1_plain_68 : decode cX1_plain 68 = .ok (.if_icmp .ge 7, 3) := by decide +kernel
theorem dX1_plain_71 : decode cX1_plain 71 = .ok (.iconst 1, 1) := by decide +kernel
theorem dX1_plain_72 : decode cX1_plain 72 = .ok (.goto 14, 3) := by decide +kernel
theorem dX1_plain_75 : decode cX1_plain 75 = .ok (.iload 8, 2) := by decide +kernel
theorem dX1_plain_77 : decode cX1_plain 77 = .ok (.iconst 4, 1) := by decide +kernel
theorem dX1_plain_78 : decode cX1_plain 78 = .ok (.if_icmp .ne 7, 3) := by decide +kernel
theorem dX1_plain_81 : decode cX1_plain 81 = .ok (.iconst 4, 1) := by decide +kernel
theorem dX1_plain_82 : decode cX1_plain 82 = .ok (.goto 4, 3) := by decide +kernel
theorem dX1_plain_85 : decode cX1_plain 85 = .ok (.iconst 0, 1) := by decide +kernel
theorem dX1_plain_86 : decode cX1_plain 86 = .ok (.invokevirtual 122, 3) := by decide +kernel
theorem dX1_plain_89 : decode cX1_plain 89 = .ok (.return_, 1) := by decide +kernel
theorem dX1_plain_90 : decode cX1_plain 90 = .ok (.aload_n 0, 1) := by decide +kernel
theorem dX1_plain_91 : decode cX1_plain 91 = .ok (.iload 5, 2) := by decide +kernel
theorem dX1_plain_93 : decode cX1_plain 93 = .ok (.iload_n 2, 1) := by decide +kernel
theorem dX1_plain_94 : decode cX1_plain 94 = .ok (.invokevirtual 126, 3) := by decide +kernel
theorem dX1_plain_97 : decode cX1_plain 97 = .ok (.istore 8, 2) := by decide +kernel
theorem dX1_plain_99 : decode cX1_plain 99 = .ok (.iload 8, 2) := by decide +kernel
theorem dX1_plain_101 : decode cX1_plain 101 = .ok (.ifCond .eq 18, 3) := by decide +kernel
theorem dX1_plain_104 : decode cX1_plain 104 = .ok (.iload 4, 2) := by decide +kernel
theorem dX1_plain_106 : decode cX1_plain 106 = .ok (.iconst 5, 1) := by decide +kernel
theorem dX1_plain_107 : decode cX1_plain 107 = .ok (.if_icmp .ne 21, 3) := by decide +kernel
theorem dX1_plain_110 : decode cX1_plain 110 = .ok (.aload_n 0, 1) := by decide +kernel
theorem dX1_plain_111 : decode cX1_plain 111 = .ok (.getfield 61, 3) := by decide +kernel
theorem dX1_plain_114 : decode cX1_plain 114 = .ok (.iload_n 1, 1) := by decide +kernel
theorem dX1_plain_115 : decode cX1_plain 115 = .ok (.baload, 1) := by decide +kernel
theorem dX1_plain_116 : decode cX1_plain 116 = .ok (.ifCond .eq 12, 3) := by decide +kernel
theorem dX1_plain_119 : decode cX1_plain 119 = .ok (.aload_n 0, 1) := by decide +kernel
theorem dX1_plain_120 : decode cX1_plain 120 = .ok (.iload_n 1, 1) := by decide +kernel
theorem dX1_plain_121 : decode cX1_plain 121 = .ok (.iconst 0, 1) := by decide +kernel
theorem dX1_plain_122 : decode cX1_plain 122 = .ok (.invokevirtual 122, 3) := by decide +kernel
theorem dX1_plain_125 : decode cX1_plain 125 = .ok (.goto 159, 3) := by decide +kernel
theorem dX1_plain_128 : decode cX1_plain 128 = .ok (.iload 4, 2) := by decide +kernel
theorem dX1_plain_130 : decode cX1_plain 130 = .ok (.ifCond .ne 12, 3) := by decide +kernel
theorem dX1_plain_133 : decode cX1_plain 133 = .ok (.aload_n 0, 1) := by decide +kernel
theorem dX1_plain_134 : decode cX1_plain 134 = .ok (.iload_n 1, 1) := by decide +kernel
theorem dX1_plain_135 : decode cX1_plain 135 = .ok (.iconst 1, 1) := by decide +kernel
theorem dX1_plain_136 : decode cX1_plain 136 = .ok (.invokevirtual 122, 3) := by decide +kernel
theorem dX1_plain_139 : decode cX1_plain 139 = .ok (.goto 145, 3) := by decide +kernel
theorem dX1_plain_142 : decode cX1_plain 142 = .ok (.iload 4, 2) := by decide +kernel
theorem dX1_plain_144 : decode cX1_plain 144 = .ok (.iconst 1, 1) := by decide +kernel
theorem dX1_plain_145 : decode cX1_plain 145 = .ok (.if_icmp .ne 12, 3) := by decide +kernel
theorem dX1_plain_148 : decode cX1_plain 148 = .ok (.aload_n 0, 1) := by decide +kernel
theorem dX1_plain_149 : decode cX1_plain 149 = .ok (.iload_n 1, 1) := by decide +kernel
theorem dX1_plain_150 : decode cX1_plain 150 = .ok (.iconst 4, 1) := by decide +kernel
theorem dX1_plain_151 : decode cX1_plain 151 = .ok (.invokevirtual 122, 3) := by decide +kernel
theorem dX1_plain_154 : decode cX1_plain 154 = .ok (.goto 130, 3) := by decide +kernel
theorem dX1_plain_157 : decode cX1_plain 157 = .ok (.iload 4, 2) := by decide +kernel
theorem dX1_plain_159 : decode cX1_plain 159 = .ok (.iconst 2, 1) := by decide +kernel
theorem dX1_plain_160 : decode cX1_plain 160 = .ok (.if_icmp .ne 12, 3) := by decide +kernel
theorem dX1_plain_163 : decode cX1_plain 163 = .ok (.aload_n 0, 1) := by decide +kernel
theorem dX1_plain_164 : decode cX1_plain 164 = .ok (.iload_n 1, 1) := by decide +kernel
theorem dX1_plain_165 : decode cX1_plain 165 = .ok (.iconst 5, 1) := by decide +kernel
theorem dX1_plain_166 : decode cX1_plain 166 = .ok (.invokevirtual 122, 3) := by decide +kernel
theorem dX1_plain_169 : decode cX1_plain 169 = .ok (.goto 115, 3) := by decide +kernel
theorem dX1_plain_172 : decode cX1_plain 172 = .ok (.iload 4, 2) := by decide +kernel
theorem dX1_plain_174 : decode cX1_plain 174 = .ok (.iconst 3, 1) := by decide +kernel
theorem dX1_plain_175 : decode cX1_plain 175 = .ok (.if_icmp .ne 27, 3) := by decide +kernel
theorem dX1_plain_178 : decode cX1_plain 178 = .ok (.aload_n 0, 1) := by decide +kernel
theorem dX1_plain_179 : decode cX1_plain 179 = .ok (.iload_n 1, 1) := by decide +kernel
theorem dX1_plain_180 : decode cX1_plain 180 = .ok (.aload_n 0, 1) := by decide +kernel
theorem dX1_plain_181 : decode cX1_plain 181 = .ok (.getfield 54, 3) := by decide +kernel
theorem dX1_plain_184 : decode cX1_plain 184 = .ok (.iload_n 1, 1) := by decide +kernel
theorem dX1_plain_185 : decode cX1_plain 185 = .ok (.iaload, 1) := by decide +kernel
theorem dX1_plain_186 : decode cX1_plain 186 = .ok (.iload 6, 2) := by decide +kernel
theorem dX1_plain_188 : decode cX1_plain 188 = .ok (.if_icmp .ge 7, 3) := by decide +kernel
theorem dX1_plain_191 : decode cX1_plain 191 = .ok (.iconst 1, 1) := by decide +kernel
theorem dX1_plain_192 : decode cX1_plain 192 = .ok (.goto 4, 3) := by decide +kernel
theorem dX1_plain_195 : decode cX1_plain 195 = .ok (.iconst 4, 1) := by decide +kernel
theorem dX1_plain_196 : decode cX1_plain 196 = .ok (.invokevirtual 122, 3) := by decide +kernel
theorem dX1_plain_199 : decode cX1_plain 199 = .ok (.goto 85, 3) := by decide +kernel
theorem dX1_plain_202 : decode cX1_plain 202 = .ok (.iload 4, 2) := by decide +kernel
theorem dX1_plain_204 : decode cX1_plain 204 = .ok (.bipush 7, 2) := by decide +kernel
theorem dX1_plain_206 : decode cX1_plain 206 = .ok (.if_icmp .ne 28, 3) := by decide +kernel
theorem dX1_plain_209 : decode cX1_plain 209 = .ok (.aload_n 0, 1) := by decide +kernel
theorem dX1_plain_210 : decode cX1_plain 210 = .ok (.iload_n 1, 1) := by decide +kernel
theorem dX1_plain_211 : decode cX1_plain 211 = .ok (.iload 6, 2) := by decide +kernel
theorem dX1_plain_213 : decode cX1_plain 213 = .ok (.iload_n 3, 1) := by decide +kernel
theorem dX1_plain_214 : decode cX1_plain 214 = .ok (.if_icmp .gt 13, 3) := by decide +kernel
theorem dX1_plain_217 : decode cX1_plain 217 = .ok (.iload_n 3, 1) := by decide +kernel
theorem dX1_plain_218 : decode cX1_plain 218 = .ok (.iload 7, 2) := by decide +kernel
theorem dX1_plain_220 : decode cX1_plain 220 = .ok (.if_icmp .gt 7, 3) := by decide +kernel
theorem dX1_plain_223 : decode cX1_plain 223 = .ok (.iconst 1, 1) := by decide +kernel
theorem dX1_plain_224 : decode cX1_plain 224 = .ok (.goto 4, 3) := by decide +kernel
theorem dX1_plain_227 : decode cX1_plain 227 = .ok (.iconst 4, 1) := by decide +kernel
theorem dX1_plain_228 : decode cX1_plain 228 = .ok (.invokevirtual 122, 3) := by decide +kernel
theorem dX1_plain_231 : decode cX1_plain 231 = .ok (.goto 53, 3) := by decide +kernel
theorem dX1_plain_234 : decode cX1_plain 234 = .ok (.aload_n 0, 1) := by decide +kernel
theorem dX1_plain_235 : decode cX1_plain 235 = .ok (.iload_n 1, 1) := by decide +kernel
theorem dX1_plain_236 : decode cX1_plain 236 = .ok (.iload 4, 2) := by decide +kernel
theorem dX1_plain_238 : decode cX1_plain 238 = .ok (.iconst 4, 1) := by decide +kernel
theorem dX1_plain_239 : decode cX1_plain 239 = .ok (.if_icmp .ne 7, 3) := by decide +kernel
theorem dX1_plain_242 : decode cX1_plain 242 = .ok (.iconst 3, 1) := by decide +kernel
theorem dX1_plain_243 : decode cX1_plain 243 = .ok (.goto 4, 3) := by decide +kernel
theorem dX1_plain_246 : decode cX1_plain 246 = .ok (.iconst 2, 1) := by decide +kernel
theorem dX1_plain_247 : decode cX1_plain 247 = .ok (.invokevirtual 122, 3) := by decide +kernel
theorem dX1_plain_250 : decode cX1_plain 250 = .ok (.aload_n 0, 1) := by decide +kernel
theorem dX1_plain_251 : decode cX1_plain 251 = .ok (.getfield 76, 3) := by decide +kernel
theorem dX1_plain_254 : decode cX1_plain 254 = .ok (.iload_n 1, 1) := by decide +kernel
theorem dX1_plain_255 : decode cX1_plain 255 = .ok (.iload 6, 2) := by decide +kernel
theorem dX1_plain_257 : decode cX1_plain 257 = .ok (.iastore, 1) := by decide +kernel
theorem dX1_plain_258 : decode cX1_plain 258 = .ok (.aload_n 0, 1) := by decide +kernel
theorem dX1_plain_259 : decode cX1_plain 259 = .ok (.getfield 79, 3) := by decide +kernel
theorem dX1_plain_262 : decode cX1_plain 262 = .ok (.iload_n 1, 1) := by decide +kernel
theorem dX1_plain_263 : decode cX1_plain 263 = .ok (.iload 4, 2) := by decide +kernel
theorem dX1_plain_265 : decode cX1_plain 265 = .ok (.iconst 4, 1) := by decide +kernel
theorem dX1_plain_266 : decode cX1_plain 266 = .ok (.if_icmp .ne 8, 3) := by decide +kernel
theorem dX1_plain_269 : decode cX1_plain 269 = .ok (.iload 6, 2) := by decide +kernel
theorem dX1_plain_271 : decode cX1_plain 271 = .ok (.goto 5, 3) := by decide +kernel
theorem dX1_plain_274 : decode cX1_plain 274 = .ok (.iload 7, 2) := by decide +kernel
theorem dX1_plain_276 : decode cX1_plain 276 = .ok (.iastore, 1) := by decide +kernel
theorem dX1_plain_277 : decode cX1_plain 277 = .ok (.aload_n 0, 1) := by decide +kernel
theorem dX1_plain_278 : decode cX1_plain 278 = .ok (.getfield 82, 3) := by decide +kernel
theorem dX1_plain_281 : decode cX1_plain 281 = .ok (.iload_n 1, 1) := by decide +kernel
theorem dX1_plain_282 : decode cX1_plain 282 = .ok (.iload_n 1, 1) := by decide +kernel
theorem dX1_plain_283 : decode cX1_plain 283 = .ok (.iastore, 1) := by decide +kernel
theorem dX1_plain_284 : decode cX1_plain 284 = .ok (.return_, 1) := by decide +kernel
theorem dX1_takesA_0 : decode cX1_takesA 0 = .ok (.iload_n 1, 1) := by decide +kernel
theorem dX1_takesA_1 : decode cX1_takesA 1 = .ok (.bipush 10, 2) := by decide +kernel
theorem dX1_takesA_3 : decode cX1_takesA 3 = .ok (.if_icmp .ne 18, 3) := by decide +kernel
theorem dX1_takesA_6 : decode cX1_takesA 6 = .ok (.aload_n 0, 1) := by decide +kernel
theorem dX1_takesA_7 : decode cX1_takesA 7 = .ok (.getfield 73, 3) := by decide +kernel
theorem dX1_takesA_10 : decode cX1_takesA 10 = .ok (.iload_n 2, 1) := by decide +kernel
theorem dX1_takesA_11 : decode cX1_takesA 11 = .ok (.iaload, 1) := by decide +kernel
theorem dX1_takesA_12 : decode cX1_takesA 12 = .ok (.ifCond .eq 7, 3) := by decide +kernel
theorem dX1_takesA_15 : decode cX1_takesA 15 = .ok (.iconst 1, 1) := by decide +kernel
theorem dX1_takesA_16 : decode cX1_takesA 16 = .ok (.goto 4, 3) := by decide +kernel
theorem dX1_takesA_19 : decode cX1_takesA 19 = .ok (.iconst 0, 1) := by decide +kernel
theorem dX1_takesA_20 : decode cX1_takesA 20 = .ok (.ireturn, 1) := by decide +kernel
theorem dX1_takesA_21 : decode cX1_takesA 21 = .ok (.iload_n 1, 1) := by decide +kernel
theorem dX1_takesA_22 : decode cX1_takesA 22 = .ok (.bipush 11, 2) := by decide +kernel
theorem dX1_takesA_24 : decode cX1_takesA 24 = .ok (.if_icmp .ne 19, 3) := by decide +kernel
theorem dX1_takesA_27 : decode cX1_takesA 27 = .ok (.aload_n 0, 1) := by decide +kernel
theorem dX1_takesA_28 : decode cX1_takesA 28 = .ok (.getfield 73, 3) := by decide +kernel
theorem dX1_takesA_31 : decode cX1_takesA 31 = .ok (.iload_n 2, 1) := by decide +kernel
theorem dX1_takesA_32 : decode cX1_takesA 32 = .ok (.iaload, 1) := by decide +kernel
theorem dX1_takesA_33 : decode cX1_takesA 33 = .ok (.iconst 1, 1) := by decide +kernel
theorem dX1_takesA_34 : decode cX1_takesA 34 = .ok (.if_icmp .le 7, 3) := by decide +kernel
theorem dX1_takesA_37 : decode cX1_takesA 37 = .ok (.iconst 1, 1) := by decide +kernel
theorem dX1_takesA_38 : decode cX1_takesA 38 = .ok (.goto 4, 3) := by decide +kernel
theorem dX1_takesA_41 : decode cX1_takesA 41 = .ok (.iconst 0, 1) := by decide +kernel
theorem dX1_takesA_42 : decode cX1_takesA 42 = .ok (.ireturn, 1) := by decide +kernel
theorem dX1_takesA_43 : decode cX1_takesA 43 = .ok (.aload_n 0, 1) := by decide +kernel
theorem dX1_takesA_44 : decode cX1_takesA 44 = .ok (.getfield 73, 3) := by decide +kernel
theorem dX1_takesA_47 : decode cX1_takesA 47 = .ok (.iload_n 3, 1) := by decide +kernel
theorem dX1_takesA_48 : decode cX1_takesA 48 = .ok (.iaload, 1) := by decide +kernel
theorem dX1_takesA_49 : decode cX1_takesA 49 = .ok (.ifCond .eq 27, 3) := by decide +kernel
theorem dX1_takesA_52 : decode cX1_takesA 52 = .ok (.aload_n 0, 1) := by decide +kernel
theorem dX1_takesA_53 : decode cX1_takesA 53 = .ok (.getfield 73, 3) := by decide +kernel
theorem dX1_takesA_56 : decode cX1_takesA 56 = .ok (.iload_n 2, 1) := by decide +kernel
theorem dX1_takesA_57 : decode cX1_takesA 57 = .ok (.iaload, 1) := by decide +kernel
theorem dX1_takesA_58 : decode cX1_takesA 58 = .ok (.ifCond .eq 22, 3) := by decide +kernel
theorem dX1_takesA_61 : decode cX1_takesA 61 = .ok (.aload_n 0, 1) := by decide +kernel
theorem dX1_takesA_62 : decode cX1_takesA 62 = .ok (.getfield 73, 3) := by decide +kernel
theorem dX1_takesA_65 : decode cX1_takesA 65 = .ok (.iload_n 2, 1) := by decide +kernel
theorem dX1_takesA_66 : decode cX1_takesA 66 = .ok (.iaload, 1) := by decide +kernel
theorem dX1_takesA_67 : decode cX1_takesA 67 = .ok (.aload_n 0, 1) := by decide +kernel
theorem dX1_takesA_68 : decode cX1_takesA 68 = .ok (.getfield 73, 3) := by decide +kernel
theorem dX1_takesA_71 : decode cX1_takesA 71 = .ok (.iload_n 3, 1) := by decide +kernel
theorem dX1_takesA_72 : decode cX1_takesA 72 = .ok (.iaload, 1) := by decide +kernel
theorem dX1_takesA_73 : decode cX1_takesA 73 = .ok (.if_icmp .gt 7, 3) := by decide +kernel
theorem dX1_takesA_76 : decode cX1_takesA 76 = .ok (.iconst 1, 1) := by decide +kernel
theorem dX1_takesA_77 : decode cX1_takesA 77 = .ok (.goto 4, 3) := by decide +kernel
theorem dX1_takesA_80 : decode cX1_takesA 80 = .ok (.iconst 0, 1) := by decide +kernel
theorem dX1_takesA_81 : decode cX1_takesA 81 = .ok (.ireturn, 1) := by decide +kernel
theorem dX1_next_0 : decode cX1_next 0 = .ok (.aload_n 0, 1) := by decide +kernel
theorem dX1_next_1 : decode cX1_next 1 = .ok (.getfield 38, 3) := by decide +kernel
theorem dX1_next_4 : decode cX1_next 4 = .ok (.iload_n 1, 1) := by decide +kernel
theorem dX1_next_5 : decode cX1_next 5 = .ok (.iaload, 1) := by decide +kernel
theorem dX1_next_6 : decode cX1_next 6 = .ok (.istore 4, 2) := by decide +kernel
theorem dX1_next_8 : decode cX1_next 8 = .ok (.iload 4, 2) := by decide +kernel
theorem dX1_next_10 : decode cX1_next 10 = .ok (.bipush 8, 2) := by decide +kernel
theorem dX1_next_12 : decode cX1_next 12 = .ok (.if_icmp .ge 5, 3) := by decide +kernel
theorem dX1_next_15 : decode cX1_next 15 = .ok (.iconst (-1), 1) := by decide +kernel
theorem dX1_next_16 : decode cX1_next 16 = .ok (.ireturn, 1) := by decide +kernel
theorem dX1_next_17 : decode cX1_next 17 = .ok (.iload 4, 2) := by decide +kernel
theorem dX1_next_19 : decode cX1_next 19 = .ok (.bipush 12, 2) := by decide +kernel
theorem dX1_next_21 : decode cX1_next 21 = .ok (.if_icmp .ne 32, 3) := by decide +kernel
theorem dX1_next_24 : decode cX1_next 24 = .ok (.iload_n 2, 1) := by decide +kernel
theorem dX1_next_25 : decode cX1_next 25 = .ok (.ifCond .ne 26, 3) := by decide +kernel
theorem dX1_next_28 : decode cX1_next 28 = .ok (.aload_n 0, 1) := by decide +kernel
theorem dX1_next_29 : decode cX1_next 29 = .ok (.aload_n 0, 1) := by decide +kernel
theorem dX1_next_30 : decode cX1_next 30 = .ok (.getfield 42, 3) := by decide +kernel
theorem dX1_next_33 : decode cX1_next 33 = .ok (.iload_n 1, 1) := by decide +kernel
theorem dX1_next_34 : decode cX1_next 34 = .ok (.iaload, 1) := by decide +kernel
theorem dX1_next_35 : decode cX1_next 35 = .ok (.iload_n 3, 1) := by decide +kernel
theorem dX1_next_36 : decode cX1_next 36 = .ok (.invokevirtual 126, 3) := by decide +kernel
theorem dX1_next_39 : decode cX1_next 39 = .ok (.ifCond .eq 12, 3) := by decide +kernel
theorem dX1_next_42 : decode cX1_next 42 = .ok (.aload_n 0, 1) := by decide +kernel
theorem dX1_next_43 : decode cX1_next 43 = .ok (.getfield 45, 3) := by decide +kernel
theorem dX1_next_46 : decode cX1_next 46 = .ok (.iload_n 1, 1) := by decide +kernel
theorem dX1_next_47 : decode cX1_next 47 = .ok (.iaload, 1) := by decide +kernel
theorem dX1_next_48 : decode cX1_next 48 = .ok (.goto 4, 3) := by decide +kernel
theorem dX1_next_51 : decode cX1_next 51 = .ok (.iconst (-1), 1) := by decide +kernel
theorem dX1_next_52 : decode cX1_next 52 = .ok (.ireturn, 1) := by decide +kernel
theorem dX1_next_53 : decode cX1_next 53 = .ok (.iload_n 2, 1) := by decide +kernel
theorem dX1_next_54 : decode cX1_next 54 = .ok (.ifCond .ne 10, 3) := by decide +kernel
theorem dX1_next_57 : decode cX1_next 57 = .ok (.aload_n 0, 1) := by decide +kernel
theorem dX1_next_58 : decode cX1_next 58 = .ok (.getfield 42, 3) := by decide +kernel
theorem dX1_next_61 : decode cX1_next 61 = .ok (.iload_n 1, 1) := by decide +kernel
theorem dX1_next_62 : decode cX1_next 62 = .ok (.iaload, 1) := by decide +kernel
theorem dX1_next_63 : decode cX1_next 63 = .ok (.ireturn, 1) := by decide +kernel
theorem dX1_next_64 : decode cX1_next 64 = .ok (.iload_n 2, 1) := by decide +kernel
theorem dX1_next_65 : decode cX1_next 65 = .ok (.iconst 1, 1) := by decide +kernel
theorem dX1_next_66 : decode cX1_next 66 = .ok (.if_icmp .gt 10, 3) := by decide +kernel
theorem dX1_next_69 : decode cX1_next 69 = .ok (.iload 4, 2) := by decide +kernel
theorem dX1_next_71 : decode cX1_next 71 = .ok (.bipush 12, 2) := by decide +kernel
theorem dX1_next_73 : decode cX1_next 73 = .ok (.if_icmp .le 5, 3) := by decide +kernel
theorem dX1_next_76 : decode cX1_next 76 = .ok (.iconst (-1), 1) := by decide +kernel
theorem dX1_next_77 : decode cX1_next 77 = .ok (.ireturn, 1) := by decide +kernel
theorem dX1_next_78 : decode cX1_next 78 = .ok (.iload 4, 2) := by decide +kernel
theorem dX1_next_80 : decode cX1_next 80 = .ok (.bipush 9, 2) := by decide +kernel
theorem dX1_next_82 : decode cX1_next 82 = .ok (.if_icmp .le 23, 3) := by decide +kernel
theorem dX1_next_85 : decode cX1_next 85 = .ok (.aload_n 0, 1) := by decide +kernel
theorem dX1_next_86 : decode cX1_next 86 = .ok (.iload 4, 2) := by decide +kernel
theorem dX1_next_88 : decode cX1_next 88 = .ok (.aload_n 0, 1) := by decide +kernel
theorem dX1_next_89 : decode cX1_next 89 = .ok (.getfield 42, 3) := by decide +kernel
theorem dX1_next_92 : decode cX1_next 92 = .ok (.iload_n 1, 1) := by decide +kernel
theorem dX1_next_93 : decode cX1_next 93 = .ok (.iaload, 1) := by decide +kernel
theorem dX1_next_94 : decode cX1_next 94 = .ok (.iconst 0, 1) := by decide +kernel
theorem dX1_next_95 : decode cX1_next 95 = .ok (.invokevirtual 130, 3) := by decide +kernel
theorem dX1_next_98 : decode cX1_next 98 = .ok (.ifCond .eq 7, 3) := by decide +kernel
theorem dX1_next_101 : decode cX1_next 101 = .ok (.iconst (-1), 1) := by decide +kernel
theorem dX1_next_102 : decode cX1_next 102 = .ok (.goto 9, 3) := by decide +kernel
theorem dX1_next_105 : decode cX1_next 105 = .ok (.aload_n 0, 1) := by decide +kernel
theorem dX1_next_106 : decode cX1_next 106 = .ok (.getfield 45, 3) := by decide +kernel
theorem dX1_next_109 : decode cX1_next 109 = .ok (.iload_n 1, 1) := by decide +kernel
theorem dX1_next_110 : decode cX1_next 110 = .ok (.iaload, 1) := by decide +kernel
theorem dX1_next_111 : decode cX1_next 111 = .ok (.ireturn, 1) := by decide +kernel
theorem dX1_combine_0 : decode cX1_combine 0 = .ok (.aload_n 0, 1) := by decide +kernel
theorem dX1_combine_1 : decode cX1_combine 1 = .ok (.getfield 38, 3) := by decide +kernel
theorem dX1_combine_4 : decode cX1_combine 4 = .ok (.iload_n 1, 1) := by decide +kernel
theorem dX1_combine_5 : decode cX1_combine 5 = .ok (.iaload, 1) := by decide +kernel
theorem dX1_combine_6 : decode cX1_combine 6 = .ok (.istore 5, 2) := by decide +kernel
theorem dX1_combine_8 : decode cX1_combine 8 = .ok (.aload_n 0, 1) := by decide +kernel
theorem dX1_combine_9 : decode cX1_combine 9 = .ok (.getfield 42, 3) := by decide +kernel
theorem dX1_combine_12 : decode cX1_combine 12 = .ok (.iload_n 1, 1) := by decide +kernel
theorem dX1_combine_13 : decode cX1_combine 13 = .ok (.iaload, 1) := by decide +kernel
theorem dX1_combine_14 : decode cX1_combine 14 = .ok (.istore 6, 2) := by decide +kernel
theorem dX1_combine_16 : decode cX1_combine 16 = .ok (.aload_n 0, 1) := by decide +kernel
theorem dX1_combine_17 : decode cX1_combine 17 = .ok (.getfield 45, 3) := by decide +kernel
theorem dX1_combine_20 : decode cX1_combine 20 = .ok (.iload_n 1, 1) := by decide +kernel
theorem dX1_combine_21 : decode cX1_combine 21 = .ok (.iaload, 1) := by decide +kernel
theorem dX1_combine_22 : decode cX1_combine 22 = .ok (.istore 7, 2) := by decide +kernel
theorem dX1_combine_24 : decode cX1_combine 24 = .ok (.iload 5, 2) := by decide +kernel
theorem dX1_combine_26 : decode cX1_combine 26 = .ok (.bipush 8, 2) := by decide +kernel
theorem dX1_combine_28 : decode cX1_combine 28 = .ok (.if_icmp .ge 13, 3) := by decide +kernel
theorem dX1_combine_31 : decode cX1_combine 31 = .ok (.aload_n 0, 1) := by decide +kernel
theorem dX1_combine_32 : decode cX1_combine 32 = .ok (.iload_n 1, 1) := by decide +kernel
theorem dX1_combine_33 : decode cX1_combine 33 = .ok (.iload_n 2, 1) := by decide +kernel
theorem dX1_combine_34 : decode cX1_combine 34 = .ok (.iload_n 3, 1) := by decide +kernel
theorem dX1_combine_35 : decode cX1_combine 35 = .ok (.invokevirtual 133, 3) := by decide +kernel
theorem dX1_combine_38 : decode cX1_combine 38 = .ok (.goto 228, 3) := by decide +kernel
theorem dX1_combine_41 : decode cX1_combine 41 = .ok (.iload 5, 2) := by decide +kernel
theorem dX1_combine_43 : decode cX1_combine 43 = .ok (.bipush 8, 2) := by decide +kernel
theorem dX1_combine_45 : decode cX1_combine 45 = .ok (.if_icmp .ne 35, 3) := by decide +kernel
theorem dX1_combine_48 : decode cX1_combine 48 = .ok (.aload_n 0, 1) := by decide +kernel
theorem dX1_combine_49 : decode cX1_combine 49 = .ok (.iload_n 1, 1) := by decide +kernel
theorem dX1_combine_50 : decode cX1_combine 50 = .ok (.aload_n 0, 1) := by decide +kernel
theorem dX1_combine_51 : decode cX1_combine 51 = .ok (.getfield 73, 3) := by decide +kernel
theorem dX1_combine_54 : decode cX1_combine 54 = .ok (.iload 6, 2) := by decide +kernel
theorem dX1_combine_56 : decode cX1_combine 56 = .ok (.iaload, 1) := by decide +kernel
theorem dX1_combine_57 : decode cX1_combine 57 = .ok (.aload_n 0, 1) := by decide +kernel
theorem dX1_combine_58 : decode cX1_combine 58 = .ok (.getfield 73, 3) := by decide +kernel
theorem dX1_combine_61 : decode cX1_combine 61 = .ok (.iload 7, 2) := by decide +kernel
theorem dX1_combine_63 : decode cX1_combine 63 = .ok (.iaload, 1) := by decide +kernel
theorem dX1_combine_64 : decode cX1_combine 64 = .ok (.if_icmp .lt 8, 3) := by decide +kernel
theorem dX1_combine_67 : decode cX1_combine 67 = .ok (.iload 6, 2) := by decide +kernel
theorem dX1_combine_69 : decode cX1_combine 69 = .ok (.goto 5, 3) := by decide +kernel
theorem dX1_combine_72 : decode cX1_combine 72 = .ok (.iload 7, 2) := by decide +kernel
theorem dX1_combine_74 : decode cX1_combine 74 = .ok (.invokevirtual 137, 3) := by decide +kernel
theorem dX1_combine_77 : decode cX1_combine 77 = .ok (.goto 189, 3) := by decide +kernel
theorem dX1_combine_80 : decode cX1_combine 80 = .ok (.iload 5, 2) := by decide +kernel
theorem dX1_combine_82 : decode cX1_combine 82 = .ok (.bipush 12, 2) := by decide +kernel
theorem dX1_combine_84 : decode cX1_combine 84 = .ok (.if_icmp .ge 31, 3) := by decide +kernel
theorem dX1_combine_87 : decode cX1_combine 87 = .ok (.aload_n 0, 1) := by decide +kernel
theorem dX1_combine_88 : decode cX1_combine 88 = .ok (.iload_n 1, 1) := by decide +kernel
theorem dX1_combine_89 : decode cX1_combine 89 = .ok (.aload_n 0, 1) := by decide +kernel
theorem dX1_combine_90 : decode cX1_combine 90 = .ok (.iload 5, 2) := by decide +kernel
theorem dX1_combine_92 : decode cX1_combine 92 = .ok (.iload 6, 2) := by decide +kernel
theorem dX1_combine_94 : decode cX1_combine 94 = .ok (.iload 7, 2) := by decide +kernel
theorem dX1_combine_96 : decode cX1_combine 96 = .ok (.invokevirtual 130, 3) := by decide +kernel
theorem dX1_combine_99 : decode cX1_combine 99 = .ok (.ifCond .eq 8, 3) := by decide +kernel
theorem dX1_combine_102 : decode cX1_combine 102 = .ok (.iload 6, 2) := by decide +kernel
theorem dX1_combine_104 : decode cX1_combine 104 = .ok (.goto 5, 3) := by decide +kernel
theorem dX1_combine_107 : decode cX1_combine 107 = .ok (.iload 7, 2) := by decide +kernel
theorem dX1_combine_109 : decode cX1_combine 109 = .ok (.invokevirtual 137, 3) := by decide +kernel
theorem dX1_combine_112 : decode cX1_combine 112 = .ok (.goto 154, 3) := by decide +kernel
theorem dX1_combine_115 : decode cX1_combine 115 = .ok (.iload 5, 2) := by decide +kernel
theorem dX1_combine_117 : decode cX1_combine 117 = .ok (.bipush 12, 2) := by decide +kernel
theorem dX1_combine_119 : decode cX1_combine 119 = .ok (.if_icmp .ne 32, 3) := by decide +kernel
theorem dX1_combine_122 : decode cX1_combine 122 = .ok (.aload_n 0, 1) := by decide +kernel
theorem dX1_combine_123 : decode cX1_combine 123 = .ok (.iload 6, 2) := by decide +kernel
theorem dX1_combine_125 : decode cX1_combine 125 = .ok (.iload_n 2, 1) := by decide +kernel
theorem dX1_combine_126 : decode cX1_combine 126 = .ok (.invokevirtual 126, 3) := by decide +kernel
theorem dX1_combine_129 : decode cX1_combine 129 = .ok (.ifCond .eq 13, 3) := by decide +kernel
theorem dX1_combine_132 : decode cX1_combine 132 = .ok (.aload_n 0, 1) := by decide +kernel
theorem dX1_combine_133 : decode cX1_combine 133 = .ok (.iload_n 1, 1) := by decide +kernel
theorem dX1_combine_134 : decode cX1_combine 134 = .ok (.iload 7, 2) := by decide +kernel
theorem dX1_combine_136 : decode cX1_combine 136 = .ok (.invokevirtual 137, 3) := by decide +kernel
theorem dX1_combine_139 : decode cX1_combine 139 = .ok (.goto 127, 3) := by decide +kernel
theorem dX1_combine_142 : decode cX1_combine 142 = .ok (.aload_n 0, 1) := by decide +kernel
theorem dX1_combine_143 : decode cX1_combine 143 = .ok (.iload_n 1, 1) := by decide +kernel
theorem dX1_combine_144 : decode cX1_combine 144 = .ok (.iconst 0, 1) := by decide +kernel
theorem dX1_combine_145 : decode cX1_combine 145 = .ok (.invokevirtual 122, 3) := by decide +kernel
theorem dX1_combine_148 : decode cX1_combine 148 = .ok (.goto 118, 3) := by decide +kernel
theorem dX1_combine_151 : decode cX1_combine 151 = .ok (.aload_n 0, 1) := by decide +kernel
theorem dX1_combine_152 : decode cX1_combine 152 = .ok (.iload_n 1, 1) := by decide +kernel
theorem dX1_combine_153 : decode cX1_combine 153 = .ok (.iload 6, 2) := by decide +kernel
theorem dX1_combine_155 : decode cX1_combine 155 = .ok (.invokevirtual 137, 3) := by decide +kernel
theorem dX1_combine_158 : decode cX1_combine 158 = .ok (.iload 5, 2) := by decide +kernel
theorem dX1_combine_160 : decode cX1_combine 160 = .ok (.bipush 14, 2) := by decide +kernel
theorem dX1_combine_162 : decode cX1_combine 162 = .ok (.if_icmp .ne 25, 3) := by decide +kernel
theorem dX1_combine_165 : decode cX1_combine 165 = .ok (.aload_n 0, 1) := by decide +kernel
theorem dX1_combine_166 : decode cX1_combine 166 = .ok (.getfield 73, 3) := by decide +kernel
theorem dX1_combine_169 : decode cX1_combine 169 = .ok (.iload_n 1, 1) := by decide +kernel
theorem dX1_combine_170 : decode cX1_combine 170 = .ok (.iaload, 1) := by decide +kernel
theorem dX1_combine_171 : decode cX1_combine 171 = .ok (.iload 7, 2) := by decide +kernel
theorem dX1_combine_173 : decode cX1_combine 173 = .ok (.if_icmp .ne 14, 3) := by decide +kernel
theorem dX1_combine_176 : decode cX1_combine 176 = .ok (.aload_n 0, 1) := by decide +kernel
theorem dX1_combine_177 : decode cX1_combine 177 = .ok (.iload_n 1, 1) := by decide +kernel
theorem dX1_combine_178 : decode cX1_combine 178 = .ok (.aload_n 0, 1) := by decide +kernel
theorem dX1_combine_179 : decode cX1_combine 179 = .ok (.getfield 48, 3) := by decide +kernel
theorem dX1_combine_182 : decode cX1_combine 182 = .ok (.iload_n 1, 1) := by decide +kernel
theorem dX1_combine_183 : decode cX1_combine 183 = .ok (.iaload, 1) := by decide +kernel
theorem dX1_combine_184 : decode cX1_combine 184 = .ok (.invokevirtual 122, 3) := by decide +kernel
theorem dX1_combine_187 : decode cX1_combine 187 = .ok (.iload 5, 2) := by decide +kernel
theorem dX1_combine_189 : decode cX1_combine 189 = .ok (.bipush 13, 2) := by decide +kernel
theorem dX1_combine_191 : decode cX1_combine 191 = .ok (.if_icmp .ne 75, 3) := by decide +kernel
theorem dX1_combine_194 : decode cX1_combine 194 = .ok (.iload 4, 2) := by decide +kernel
theorem dX1_combine_196 : decode cX1_combine 196 = .ok (.ifCond .eq 70, 3) := by decide +kernel
theorem dX1_combine_199 : decode cX1_combine 199 = .ok (.aload_n 0, 1) := by decide +kernel
theorem dX1_combine_200 : decode cX1_combine 200 = .ok (.getfield 73, 3) := by decide +kernel
theorem dX1_combine_203 : decode cX1_combine 203 = .ok (.iload_n 1, 1) := by decide +kernel
theorem dX1_combine_204 : decode cX1_combine 204 = .ok (.iaload, 1) := by decide +kernel
theorem dX1_combine_205 : decode cX1_combine 205 = .ok (.ifCond .eq 61, 3) := by decide +kernel
theorem dX1_combine_208 : decode cX1_combine 208 = .ok (.bipush 15, 2) := by decide +kernel
theorem dX1_combine_210 : decode cX1_combine 210 = .ok (.istore 8, 2) := by decide +kernel
theorem dX1_combine_212 : decode cX1_combine 212 = .ok (.iload 8, 2) := by decide +kernel
theorem dX1_combine_214 : decode cX1_combine 214 = .ok (.ifCond .le 25, 3) := by decide +kernel
theorem dX1_combine_217 : decode cX1_combine 217 = .ok (.aload_n 0, 1) := by decide +kernel
theorem dX1_combine_218 : decode cX1_combine 218 = .ok (.getfield 70, 3) := by decide +kernel
theorem dX1_combine_221 : decode cX1_combine 221 = .ok (.iload 8, 2) := by decide +kernel
theorem dX1_combine_223 : decode cX1_combine 223 = .ok (.aload_n 0, 1) := by decide +kernel
theorem dX1_combine_224 : decode cX1_combine 224 = .ok (.getfield 70, 3) := by decide +kernel
theorem dX1_combine_227 : decode cX1_combine 227 = .ok (.iload 8, 2) := by decide +kernel
theorem dX1_combine_229 : decode cX1_combine 229 = .ok (.iconst 1, 1) := by decide +kernel
theorem dX1_combine_230 : decode cX1_combine 230 = .ok (.isub, 1) := by decide +kernel
theorem dX1_combine_231 : decode cX1_combine 231 = .ok (.iaload, 1) := by decide +kernel
theorem dX1_combine_232 : decode cX1_combine 232 = .ok (.iastore, 1) := by decide +kernel
theorem dX1_combine_233 : decode cX1_combine 233 = .ok (.iinc 8 (-1), 3) := by decide +kernel
theorem dX1_combine_236 : decode cX1_combine 236 = .ok (.goto (-24), 3) := by decide +kernel
theorem dX1_combine_239 : decode cX1_combine 239 = .ok (.aload_n 0, 1) := by decide +kernel
theorem dX1_combine_240 : decode cX1_combine 240 = .ok (.getfield 70, 3) := by decide +kernel
theorem dX1_combine_243 : decode cX1_combine 243 = .ok (.iconst 0, 1) := by decide +kernel
theorem dX1_combine_244 : decode cX1_combine 244 = .ok (.bipush 16, 2) := by decide +kernel
theorem dX1_combine_246 : decode cX1_combine 246 = .ok (.aload_n 0, 1) := by decide +kernel
theorem dX1_combine_247 : decode cX1_combine 247 = .ok (.getfield 73, 3) := by decide +kernel
theorem dX1_combine_250 : decode cX1_combine 250 = .ok (.iload_n 1, 1) := by decide +kernel
theorem dX1_combine_251 : decode cX1_combine 251 = .ok (.iaload, 1) := by decide +kernel
theorem dX1_combine_252 : decode cX1_combine 252 = .ok (.imul, 1) := by decide +kernel
theorem dX1_combine_253 : decode cX1_combine 253 = .ok (.iload_n 2, 1) := by decide +kernel
theorem dX1_combine_254 : decode cX1_combine 254 = .ok (.iadd, 1) := by decide +kernel
theorem dX1_combine_255 : decode cX1_combine 255 = .ok (.iastore, 1) := by decide +kernel
theorem dX1_combine_256 : decode cX1_combine 256 = .ok (.aload_n 0, 1) := by decide +kernel
theorem dX1_combine_257 : decode cX1_combine 257 = .ok (.dup, 1) := by decide +kernel
theorem dX1_combine_258 : decode cX1_combine 258 = .ok (.getfield 16, 3) := by decide +kernel
theorem dX1_combine_261 : decode cX1_combine 261 = .ok (.iconst 1, 1) := by decide +kernel
theorem dX1_combine_262 : decode cX1_combine 262 = .ok (.iadd, 1) := by decide +kernel
theorem dX1_combine_263 : decode cX1_combine 263 = .ok (.putfield 16, 3) := by decide +kernel
theorem dX1_combine_266 : decode cX1_combine 266 = .ok (.return_, 1) := by decide +kernel
theorem dX1_askAll_0 : decode cX1_askAll 0 = .ok (.iconst 1, 1) := by decide +kernel
theorem dX1_askAll_1 : decode cX1_askAll 1 = .ok (.istore 4, 2) := by decide +kernel
theorem dX1_askAll_3 : decode cX1_askAll 3 = .ok (.aload_n 0, 1) := by decide +kernel
theorem dX1_askAll_4 : decode cX1_askAll 4 = .ok (.getfield 85, 3) := by decide +kernel
theorem dX1_askAll_7 : decode cX1_askAll 7 = .ok (.iconst 0, 1) := by decide +kernel
theorem dX1_askAll_8 : decode cX1_askAll 8 = .ok (.aload_n 0, 1) := by decide +kernel
theorem dX1_askAll_9 : decode cX1_askAll 9 = .ok (.getfield 13, 3) := by decide +kernel
theorem dX1_askAll_12 : decode cX1_askAll 12 = .ok (.iastore, 1) := by decide +kernel
theorem dX1_askAll_13 : decode cX1_askAll 13 = .ok (.aload_n 0, 1) := by decide +kernel
theorem dX1_askAll_14 : decode cX1_askAll 14 = .ok (.getfield 88, 3) := by decide +kernel
theorem dX1_askAll_17 : decode cX1_askAll 17 = .ok (.iconst 0, 1) := by decide +kernel
theorem dX1_askAll_18 : decode cX1_askAll 18 = .ok (.iconst 0, 1) := by decide +kernel
theorem dX1_askAll_19 : decode cX1_askAll 19 = .ok (.iastore, 1) := by decide +kernel
theorem dX1_askAll_20 : decode cX1_askAll 20 = .ok (.iload 4, 2) := by decide +kernel
theorem dX1_askAll_22 : decode cX1_askAll 22 = .ok (.ifCond .le 88, 3) := by decide +kernel
theorem dX1_askAll_25 : decode cX1_askAll 25 = .ok (.aload_n 0, 1) := by decide +kernel
theorem dX1_askAll_26 : decode cX1_askAll 26 = .ok (.getfield 85, 3) := by decide +kernel
theorem dX1_askAll_29 : decode cX1_askAll 29 = .ok (.iload 4, 2) := by decide +kernel
theorem dX1_askAll_31 : decode cX1_askAll 31 = .ok (.iconst 1, 1) := by decide +kernel
theorem dX1_askAll_32 : decode cX1_askAll 32 = .ok (.isub, 1) := by decide +kernel
theorem dX1_askAll_33 : decode cX1_askAll 33 = .ok (.iaload, 1) := by decide +kernel
theorem dX1_askAll_34 : decode cX1_askAll 34 = .ok (.istore 5, 2) := by decide +kernel
theorem dX1_askAll_36 : decode cX1_askAll 36 = .ok (.aload_n 0, 1) := by decide +kernel
theorem dX1_askAll_37 : decode cX1_askAll 37 = .ok (.iload 5, 2) := by decide +kernel
theorem dX1_askAll_39 : decode cX1_askAll 39 = .ok (.aload_n 0, 1) := by decide +kernel
theorem dX1_askAll_40 : decode cX1_askAll 40 = .ok (.getfield 88, 3) := by decide +kernel
theorem dX1_askAll_43 : decode cX1_askAll 43 = .ok (.iload 4, 2) := by decide +kernel
theorem dX1_askAll_45 : decode cX1_askAll 45 = .ok (.iconst 1, 1) := by decide +kernel
theorem dX1_askAll_46 : decode cX1_askAll 46 = .ok (.isub, 1) := by decide +kernel
theorem dX1_askAll_47 : decode cX1_askAll 47 = .ok (.iaload, 1) := by decide +kernel
theorem dX1_askAll_48 : decode cX1_askAll 48 = .ok (.iload_n 1, 1) := by decide +kernel
theorem dX1_askAll_49 : decode cX1_askAll 49 = .ok (.invokevirtual 140, 3) := by decide +kernel
theorem dX1_askAll_52 : decode cX1_askAll 52 = .ok (.istore 6, 2) := by decide +kernel
theorem dX1_askAll_54 : decode cX1_askAll 54 = .ok (.iload 6, 2) := by decide +kernel
theorem dX1_askAll_56 : decode cX1_askAll 56 = .ok (.ifCond .ge 18, 3) := by decide +kernel
theorem dX1_askAll_59 : decode cX1_askAll 59 = .ok (.aload_n 0, 1) := by decide +kernel
theorem dX1_askAll_60 : decode cX1_askAll 60 = .ok (.iload 5, 2) := by decide +kernel
theorem dX1_askAll_62 : decode cX1_askAll 62 = .ok (.iload_n 1, 1) := by decide +kernel
theorem dX1_askAll_63 : decode cX1_askAll 63 = .ok (.iload_n 2, 1) := by decide +kernel
theorem dX1_askAll_64 : decode cX1_askAll 64 = .ok (.iload_n 3, 1) := by decide +kernel
theorem dX1_askAll_65 : decode cX1_askAll 65 = .ok (.invokevirtual 144, 3) := by decide +kernel
theorem dX1_askAll_68 : decode cX1_askAll 68 = .ok (.iinc 4 (-1), 3) := by decide +kernel
theorem dX1_askAll_71 : decode cX1_askAll 71 = .ok (.goto (-51), 3) := by decide +kernel
theorem dX1_askAll_74 : decode cX1_askAll 74 = .ok (.aload_n 0, 1) := by decide +kernel
theorem dX1_askAll_75 : decode cX1_askAll 75 = .ok (.getfield 88, 3) := by decide +kernel
theorem dX1_askAll_78 : decode cX1_askAll 78 = .ok (.iload 4, 2) := by decide +kernel
theorem dX1_askAll_80 : decode cX1_askAll 80 = .ok (.iconst 1, 1) := by decide +kernel
theorem dX1_askAll_81 : decode cX1_askAll 81 = .ok (.isub, 1) := by decide +kernel
theorem dX1_askAll_82 : decode cX1_askAll 82 = .ok (.dup2, 1) := by decide +kernel
theorem dX1_askAll_83 : decode cX1_askAll 83 = .ok (.iaload, 1) := by decide +kernel
theorem dX1_askAll_84 : decode cX1_askAll 84 = .ok (.iconst 1, 1) := by decide +kernel
theorem dX1_askAll_85 : decode cX1_askAll 85 = .ok (.iadd, 1) := by decide +kernel
theorem dX1_askAll_86 : decode cX1_askAll 86 = .ok (.iastore, 1) := by decide +kernel
theorem dX1_askAll_87 : decode cX1_askAll 87 = .ok (.aload_n 0, 1) := by decide +kernel
theorem dX1_askAll_88 : decode cX1_askAll 88 = .ok (.getfield 85, 3) := by decide +kernel
theorem dX1_askAll_91 : decode cX1_askAll 91 = .ok (.iload 4, 2) := by decide +kernel
theorem dX1_askAll_93 : decode cX1_askAll 93 = .ok (.iload 6, 2) := by decide +kernel
theorem dX1_askAll_95 : decode cX1_askAll 95 = .ok (.iastore, 1) := by decide +kernel
theorem dX1_askAll_96 : decode cX1_askAll 96 = .ok (.aload_n 0, 1) := by decide +kernel
theorem dX1_askAll_97 : decode cX1_askAll 97 = .ok (.getfield 88, 3) := by decide +kernel
theorem dX1_askAll_100 : decode cX1_askAll 100 = .ok (.iload 4, 2) := by decide +kernel
theorem dX1_askAll_102 : decode cX1_askAll 102 = .ok (.iconst 0, 1) := by decide +kernel
theorem dX1_askAll_103 : decode cX1_askAll 103 = .ok (.iastore, 1) := by decide +kernel
theorem dX1_askAll_104 : decode cX1_askAll 104 = .ok (.iinc 4 1, 3) := by decide +kernel
theorem dX1_askAll_107 : decode cX1_askAll 107 = .ok (.goto (-87), 3) := by decide +kernel
theorem dX1_askAll_110 : decode cX1_askAll 110 = .ok (.aload_n 0, 1) := by decide +kernel
theorem dX1_askAll_111 : decode cX1_askAll 111 = .ok (.getfield 73, 3) := by decide +kernel
theorem dX1_askAll_114 : decode cX1_askAll 114 = .ok (.aload_n 0, 1) := by decide +kernel
theorem dX1_askAll_115 : decode cX1_askAll 115 = .ok (.getfield 13, 3) := by decide +kernel
theorem dX1_askAll_118 : decode cX1_askAll 118 = .ok (.iaload, 1) := by decide +kernel
theorem dX1_askAll_119 : decode cX1_askAll 119 = .ok (.ireturn, 1) := by decide +kernel
theorem dX1_accept_0 : decode cX1_accept 0 = .ok (.iconst 1, 1) := by decide +kernel
theorem dX1_accept_1 : decode cX1_accept 1 = .ok (.istore_n 3, 1) := by decide +kernel
theorem dX1_accept_2 : decode cX1_accept 2 = .ok (.aload_n 0, 1) := by decide +kernel
theorem dX1_accept_3 : decode cX1_accept 3 = .ok (.iload_n 1, 1) := by decide +kernel
theorem dX1_accept_4 : decode cX1_accept 4 = .ok (.iload_n 2, 1) := by decide +kernel
theorem dX1_accept_5 : decode cX1_accept 5 = .ok (.iconst 0, 1) := by decide +kernel
theorem dX1_accept_6 : decode cX1_accept 6 = .ok (.invokevirtual 148, 3) := by decide +kernel
theorem dX1_accept_9 : decode cX1_accept 9 = .ok (.pop, 1) := by decide +kernel
theorem dX1_accept_10 : decode cX1_accept 10 = .ok (.aload_n 0, 1) := by decide +kernel
theorem dX1_accept_11 : decode cX1_accept 11 = .ok (.getfield 85, 3) := by decide +kernel
theorem dX1_accept_14 : decode cX1_accept 14 = .ok (.iconst 0, 1) := by decide +kernel
theorem dX1_accept_15 : decode cX1_accept 15 = .ok (.aload_n 0, 1) := by decide +kernel
theorem dX1_accept_16 : decode cX1_accept 16 = .ok (.getfield 13, 3) := by decide +kernel
theorem dX1_accept_19 : decode cX1_accept 19 = .ok (.iastore, 1) := by decide +kernel
theorem dX1_accept_20 : decode cX1_accept 20 = .ok (.iload_n 3, 1) := by decide +kernel
theorem dX1_accept_21 : decode cX1_accept 21 = .ok (.ifCond .le 238, 3) := by decide +kernel
theorem dX1_accept_24 : decode cX1_accept 24 = .ok (.iinc 3 (-1), 3) := by decide +kernel
theorem dX1_accept_27 : decode cX1_accept 27 = .ok (.aload_n 0, 1) := by decide +kernel
theorem dX1_accept_28 : decode cX1_accept 28 = .ok (.getfield 85, 3) := by decide +kernel
theorem dX1_accept_31 : decode cX1_accept 31 = .ok (.iload_n 3, 1) := by decide +kernel
theorem dX1_accept_32 : decode cX1_accept 32 = .ok (.iaload, 1) := by decide +kernel
theorem dX1_accept_33 : decode cX1_accept 33 = .ok (.istore 4, 2) := by decide +kernel
theorem dX1_accept_35 : decode cX1_accept 35 = .ok (.aload_n 0, 1) := by decide +kernel
theorem dX1_accept_36 : decode cX1_accept 36 = .ok (.getfield 38, 3) := by decide +kernel
theorem dX1_accept_39 : decode cX1_accept 39 = .ok (.iload 4, 2) := by decide +kernel
theorem dX1_accept_41 : decode cX1_accept 41 = .ok (.iaload, 1) := by decide +kernel
theorem dX1_accept_42 : decode cX1_accept 42 = .ok (.istore 5, 2) := by decide +kernel
theorem dX1_accept_44 : decode cX1_accept 44 = .ok (.aload_n 0, 1) := by decide +kernel
theorem dX1_accept_45 : decode cX1_accept 45 = .ok (.getfield 42, 3) := by decide +kernel
theorem dX1_accept_48 : decode cX1_accept 48 = .ok (.iload 4, 2) := by decide +kernel
theorem dX1_accept_50 : decode cX1_accept 50 = .ok (.iaload, 1) := by decide +kernel
theorem dX1_accept_51 : decode cX1_accept 51 = .ok (.istore 6, 2) := by decide +kernel
theorem dX1_accept_53 : decode cX1_accept 53 = .ok (.aload_n 0, 1) := by decide +kernel
theorem dX1_accept_54 : decode cX1_accept 54 = .ok (.getfield 45, 3) := by decide +kernel
theorem dX1_accept_57 : decode cX1_accept 57 = .ok (.iload 4, 2) := by decide +kernel
theorem dX1_accept_59 : decode cX1_accept 59 = .ok (.iaload, 1) := by decide +kernel
theorem dX1_accept_60 : decode cX1_accept 60 = .ok (.istore 7, 2) := by decide +kernel
theorem dX1_accept_62 : decode cX1_accept 62 = .ok (.iload 5, 2) := by decide +kernel
theorem dX1_accept_64 : decode cX1_accept 64 = .ok (.iconst 3, 1) := by decide +kernel
theorem dX1_accept_65 : decode cX1_accept 65 = .ok (.if_icmp .ne 24, 3) := by decide +kernel
theorem dX1_accept_68 : decode cX1_accept 68 = .ok (.aload_n 0, 1) := by decide +kernel
theorem dX1_accept_69 : decode cX1_accept 69 = .ok (.iload 6, 2) := by decide +kernel
theorem dX1_accept_71 : decode cX1_accept 71 = .ok (.iload_n 1, 1) := by decide +kernel
theorem dX1_accept_72 : decode cX1_accept 72 = .ok (.invokevirtual 126, 3) := by decide +kernel
theorem dX1_accept_75 : decode cX1_accept 75 = .ok (.ifCond .eq 14, 3) := by decide +kernel
theorem dX1_accept_78 : decode cX1_accept 78 = .ok (.aload_n 0, 1) := by decide +kernel
theorem dX1_accept_79 : decode cX1_accept 79 = .ok (.getfield 54, 3) := by decide +kernel
theorem dX1_accept_82 : decode cX1_accept 82 = .ok (.iload 4, 2) := by decide +kernel
theorem dX1_accept_84 : decode cX1_accept 84 = .ok (.dup2, 1) := by decide +kernel
theorem dX1_accept_85 : decode cX1_accept 85 = .ok (.iaload, 1) := by decide +kernel
theorem dX1_accept_86 : decode cX1_accept 86 = .ok (.iconst 1, 1) := by decide +kernel
theorem dX1_accept_87 : decode cX1_accept 87 = .ok (.iadd, 1) := by decide +kernel
theorem dX1_accept_88 : decode cX1_accept 88 = .ok (.iastore, 1) := by decide +kernel
theorem dX1_accept_89 : decode cX1_accept 89 = .ok (.iload 5, 2) := by decide +kernel
theorem dX1_accept_91 : decode cX1_accept 91 = .ok (.bipush 6, 2) := by decide +kernel
theorem dX1_accept_93 : decode cX1_accept 93 = .ok (.if_icmp .ne 60, 3) := by decide +kernel
theorem dX1_accept_96 : decode cX1_accept 96 = .ok (.aload_n 0, 1) := by decide +kernel
theorem dX1_accept_97 : decode cX1_accept 97 = .ok (.getfield 64, 3) := by decide +kernel
theorem dX1_accept_100 : decode cX1_accept 100 = .ok (.iload 6, 2) := by decide +kernel
theorem dX1_accept_102 : decode cX1_accept 102 = .ok (.bipush 32, 2) := by decide +kernel
theorem dX1_accept_104 : decode cX1_accept 104 = .ok (.imul, 1) := by decide +kernel
theorem dX1_accept_105 : decode cX1_accept 105 = .ok (.aload_n 0, 1) := by decide +kernel
theorem dX1_accept_106 : decode cX1_accept 106 = .ok (.getfield 54, 3) := by decide +kernel
theorem dX1_accept_109 : decode cX1_accept 109 = .ok (.iload 4, 2) := by decide +kernel
theorem dX1_accept_111 : decode cX1_accept 111 = .ok (.iaload, 1) := by decide +kernel
theorem dX1_accept_112 : decode cX1_accept 112 = .ok (.bipush 8, 2) := by decide +kernel
theorem dX1_accept_114 : decode cX1_accept 114 = .ok (.imul, 1) := by decide +kernel
theorem dX1_accept_115 : decode cX1_accept 115 = .ok (.iadd, 1) := by decide +kernel
theorem dX1_accept_116 : decode cX1_accept 116 = .ok (.iload_n 1, 1) := by decide +kernel
theorem dX1_accept_117 : decode cX1_accept 117 = .ok (.iadd, 1) := by decide +kernel
theorem dX1_accept_118 : decode cX1_accept 118 = .ok (.iaload, 1) := by decide +kernel
theorem dX1_accept_119 : decode cX1_accept 119 = .ok (.iconst 4, 1) := by decide +kernel
theorem dX1_accept_120 : decode cX1_accept 120 = .ok (.if_icmp .ge 33, 3) := by decide +kernel
theorem dX1_accept_123 : decode cX1_accept 123 = .ok (.aload_n 0, 1) := by decide +kernel
theorem dX1_accept_124 : decode cX1_accept 124 = .ok (.getfield 54, 3) := by decide +kernel
theorem dX1_accept_127 : decode cX1_accept 127 = .ok (.iload 4, 2) := by decide +kernel
theorem dX1_accept_129 : decode cX1_accept 129 = .ok (.aload_n 0, 1) := by decide +kernel
theorem dX1_accept_130 : decode cX1_accept 130 = .ok (.getfield 64, 3) := by decide +kernel
theorem dX1_accept_133 : decode cX1_accept 133 = .ok (.iload 6, 2) := by decide +kernel
theorem dX1_accept_135 : decode cX1_accept 135 = .ok (.bipush 32, 2) := by decide +kernel
theorem dX1_accept_137 : decode cX1_accept 137 = .ok (.imul, 1) := by decide +kernel
theorem dX1_accept_138 : decode cX1_accept 138 = .ok (.aload_n 0, 1) := by decide +kernel
theorem dX1_accept_139 : decode cX1_accept 139 = .ok (.getfield 54, 3) := by decide +kernel
theorem dX1_accept_142 : decode cX1_accept 142 = .ok (.iload 4, 2) := by decide +kernel
theorem dX1_accept_144 : decode cX1_accept 144 = .ok (.iaload, 1) := by decide +kernel
theorem dX1_accept_145 : decode cX1_accept 145 = .ok (.bipush 8, 2) := by decide +kernel
theorem dX1_accept_147 : decode cX1_accept 147 = .ok (.imul, 1) := by decide +kernel
theorem dX1_accept_148 : decode cX1_accept 148 = .ok (.iadd, 1) := by decide +kernel
theorem dX1_accept_149 : decode cX1_accept 149 = .ok (.iload_n 1, 1) := by decide +kernel
theorem dX1_accept_150 : decode cX1_accept 150 = .ok (.iadd, 1) := by decide +kernel
theorem dX1_accept_151 : decode cX1_accept 151 = .ok (.iaload, 1) := by decide +kernel
theorem dX1_accept_152 : decode cX1_accept 152 = .ok (.iastore, 1) := by decide +kernel
theorem dX1_accept_153 : decode cX1_accept 153 = .ok (.iload 5, 2) := by decide +kernel
theorem dX1_accept_155 : decode cX1_accept 155 = .ok (.bipush 8, 2) := by decide +kernel
theorem dX1_accept_157 : decode cX1_accept 157 = .ok (.if_icmp .eq 20, 3) := by decide +kernel
theorem dX1_accept_160 : decode cX1_accept 160 = .ok (.iload 5, 2) := by decide +kernel
theorem dX1_accept_162 : decode cX1_accept 162 = .ok (.bipush 12, 2) := by decide +kernel
theorem dX1_accept_164 : decode cX1_accept 164 = .ok (.if_icmp .ne 24, 3) := by decide +kernel
theorem dX1_accept_167 : decode cX1_accept 167 = .ok (.aload_n 0, 1) := by decide +kernel
theorem dX1_accept_168 : decode cX1_accept 168 = .ok (.iload 6, 2) := by decide +kernel
theorem dX1_accept_170 : decode cX1_accept 170 = .ok (.iload_n 1, 1) := by decide +kernel
theorem dX1_accept_171 : decode cX1_accept 171 = .ok (.invokevirtual 126, 3) := by decide +kernel
theorem dX1_accept_174 : decode cX1_accept 174 = .ok (.ifCond .eq 14, 3) := by decide +kernel
theorem dX1_accept_177 : decode cX1_accept 177 = .ok (.aload_n 0, 1) := by decide +kernel
theorem dX1_accept_178 : decode cX1_accept 178 = .ok (.getfield 85, 3) := by decide +kernel
theorem dX1_accept_181 : decode cX1_accept 181 = .ok (.iload_n 3, 1) := by decide +kernel
theorem dX1_accept_182 : decode cX1_accept 182 = .ok (.iload 7, 2) := by decide +kernel
theorem dX1_accept_184 : decode cX1_accept 184 = .ok (.iastore, 1) := by decide +kernel
theorem dX1_accept_185 : decode cX1_accept 185 = .ok (.iinc 3 1, 3) := by decide +kernel
theorem dX1_accept_188 : decode cX1_accept 188 = .ok (.iload 5, 2) := by decide +kernel
theorem dX1_accept_190 : decode cX1_accept 190 = .ok (.bipush 8, 2) := by decide +kernel
theorem dX1_accept_192 : decode cX1_accept 192 = .ok (.if_icmp .eq 10, 3) := by decide +kernel
theorem dX1_accept_195 : decode cX1_accept 195 = .ok (.iload 5, 2) := by decide +kernel
theorem dX1_accept_197 : decode cX1_accept 197 = .ok (.bipush 12, 2) := by decide +kernel
theorem dX1_accept_199 : decode cX1_accept 199 = .ok (.if_icmp .le 14, 3) := by decide +kernel
theorem dX1_accept_202 : decode cX1_accept 202 = .ok (.aload_n 0, 1) := by decide +kernel
theorem dX1_accept_203 : decode cX1_accept 203 = .ok (.getfield 85, 3) := by decide +kernel
theorem dX1_accept_206 : decode cX1_accept 206 = .ok (.iload_n 3, 1) := by decide +kernel
theorem dX1_accept_207 : decode cX1_accept 207 = .ok (.iload 6, 2) := by decide +kernel
theorem dX1_accept_209 : decode cX1_accept 209 = .ok (.iastore, 1) := by decide +kernel
theorem dX1_accept_210 : decode cX1_accept 210 = .ok (.iinc 3 1, 3) := by decide +kernel
theorem dX1_accept_213 : decode cX1_accept 213 = .ok (.iload 5, 2) := by decide +kernel
theorem dX1_accept_215 : decode cX1_accept 215 = .ok (.bipush 8, 2) := by decide +kernel
theorem dX1_accept_217 : decode cX1_accept 217 = .ok (.if_icmp .le 39, 3) := by decide +kernel
theorem dX1_accept_220 : decode cX1_accept 220 = .ok (.iload 5, 2) := by decide +kernel
theorem dX1_accept_222 : decode cX1_accept 222 = .ok (.bipush 12, 2) := by decide +kernel
theorem dX1_accept_224 : decode cX1_accept 224 = .ok (.if_icmp .ge 32, 3) := by decide +kernel
theorem dX1_accept_227 : decode cX1_accept 227 = .ok (.aload_n 0, 1) := by decide +kernel
theorem dX1_accept_228 : decode cX1_accept 228 = .ok (.getfield 85, 3) := by decide +kernel
theorem dX1_accept_231 : decode cX1_accept 231 = .ok (.iload_n 3, 1) := by decide +kernel
theorem dX1_accept_232 : decode cX1_accept 232 = .ok (.aload_n 0, 1) := by decide +kernel
theorem dX1_accept_233 : decode cX1_accept 233 = .ok (.iload 5, 2) := by decide +kernel
theorem dX1_accept_235 : decode cX1_accept 235 = .ok (.iload 6, 2) := by decide +kernel
theorem dX1_accept_237 : decode cX1_accept 237 = .ok (.iload 7, 2) := by decide +kernel
theorem dX1_accept_239 : decode cX1_accept 239 = .ok (.invokevirtual 130, 3) := by decide +kernel
theorem dX1_accept_242 : decode cX1_accept 242 = .ok (.ifCond .eq 8, 3) := by decide +kernel
theorem dX1_accept_245 : decode cX1_accept 245 = .ok (.iload 6, 2) := by decide +kernel
theorem dX1_accept_247 : decode cX1_accept 247 = .ok (.goto 5, 3) := by decide +kernel
theorem dX1_accept_250 : decode cX1_accept 250 = .ok (.iload 7, 2) := by decide +kernel
theorem dX1_accept_252 : decode cX1_accept 252 = .ok (.iastore, 1) := by decide +kernel
theorem dX1_accept_253 : decode cX1_accept 253 = .ok (.iinc 3 1, 3) := by decide +kernel
theorem dX1_accept_256 : decode cX1_accept 256 = .ok (.goto (-236), 3) := by decide +kernel
theorem dX1_accept_259 : decode cX1_accept 259 = .ok (.return_, 1) := by decide +kernel
theorem dX1_perform_0 : decode cX1_perform 0 = .ok (.aload_n 0, 1) := by decide +kernel
theorem dX1_perform_1 : decode cX1_perform 1 = .ok (.getfield 67, 3) := by decide +kernel
theorem dX1_perform_4 : decode cX1_perform 4 = .ok (.iload_n 1, 1) := by decide +kernel
theorem dX1_perform_5 : decode cX1_perform 5 = .ok (.dup2, 1) := by decide +kernel
theorem dX1_perform_6 : decode cX1_perform 6 = .ok (.iaload, 1) := by decide +kernel
theorem dX1_perform_7 : decode cX1_perform 7 = .ok (.iload_n 2, 1) := by decide +kernel
theorem dX1_perform_8 : decode cX1_perform 8 = .ok (.iadd, 1) := by decide +kernel
theorem dX1_perform_9 : decode cX1_perform 9 = .ok (.iastore, 1) := by decide +kernel
theorem dX1_perform_10 : decode cX1_perform 10 = .ok (.aload_n 0, 1) := by decide +kernel
theorem dX1_perform_11 : decode cX1_perform 11 = .ok (.aload_n 0, 1) := by decide +kernel
theorem dX1_perform_12 : decode cX1_perform 12 = .ok (.getfield 67, 3) := by decide +kernel
theorem dX1_perform_15 : decode cX1_perform 15 = .ok (.iload_n 1, 1) := by decide +kernel
theorem dX1_perform_16 : decode cX1_perform 16 = .ok (.iaload, 1) := by decide +kernel
theorem dX1_perform_17 : decode cX1_perform 17 = .ok (.putfield 31, 3) := by decide +kernel
theorem dX1_perform_20 : decode cX1_perform 20 = .ok (.aload_n 0, 1) := by decide +kernel
theorem dX1_perform_21 : decode cX1_perform 21 = .ok (.dup, 1) := by decide +kernel
theorem dX1_perform_22 : decode cX1_perform 22 = .ok (.getfield 19, 3) := by decide +kernel
theorem dX1_perform_25 : decode cX1_perform 25 = .ok (.iconst 1, 1) := by decide +kernel
theorem dX1_perform_26 : decode cX1_perform 26 = .ok (.iadd, 1) := by decide +kernel
theorem dX1_perform_27 : decode cX1_perform 27 = .ok (.putfield 19, 3) := by decide +kernel
theorem dX1_perform_30 : decode cX1_perform 30 = .ok (.return_, 1) := by decide +kernel
theorem dX1_acting_0 : decode cX1_acting 0 = .ok (.iconst 1, 1) := by decide +kernel
theorem dX1_acting_1 : decode cX1_acting 1 = .ok (.istore_n 1, 1) := by decide +kernel
theorem dX1_acting_2 : decode cX1_acting 2 = .ok (.iload_n 1, 1) := by decide +kernel
theorem dX1_acting_3 : decode cX1_acting 3 = .ok (.ifCond .le 181, 3) := by decide +kernel
theorem dX1_acting_6 : decode cX1_acting 6 = .ok (.aload_n 0, 1) := by decide +kernel
theorem dX1_acting_7 : decode cX1_acting 7 = .ok (.getfield 91, 3) := by decide +kernel
theorem dX1_acting_10 : decode cX1_acting 10 = .ok (.iload_n 1, 1) := by decide +kernel
theorem dX1_acting_11 : decode cX1_acting 11 = .ok (.iconst 1, 1) := by decide +kernel
theorem dX1_acting_12 : decode cX1_acting 12 = .ok (.isub, 1) := by decide +kernel
theorem dX1_acting_13 : decode cX1_acting 13 = .ok (.iaload, 1) := by decide +kernel
theorem dX1_acting_14 : decode cX1_acting 14 = .ok (.istore_n 2, 1) := by decide +kernel
theorem dX1_acting_15 : decode cX1_acting 15 = .ok (.aload_n 0, 1) := by decide +kernel
theorem dX1_acting_16 : decode cX1_acting 16 = .ok (.getfield 94, 3) := by decide +kernel
theorem dX1_acting_19 : decode cX1_acting 19 = .ok (.iload_n 1, 1) := by decide +kernel
theorem dX1_acting_20 : decode cX1_acting 20 = .ok (.iconst 1, 1) := by decide +kernel
theorem dX1_acting_21 : decode cX1_acting 21 = .ok (.isub, 1) := by decide +kernel
theorem dX1_acting_22 : decode cX1_acting 22 = .ok (.iaload, 1) := by decide +kernel
theorem dX1_acting_23 : decode cX1_acting 23 = .ok (.istore_n 3, 1) := by decide +kernel
theorem dX1_acting_24 : decode cX1_acting 24 = .ok (.aload_n 0, 1) := by decide +kernel
theorem dX1_acting_25 : decode cX1_acting 25 = .ok (.getfield 13, 3) := by decide +kernel
theorem dX1_acting_28 : decode cX1_acting 28 = .ok (.ifCond .ge 7, 3) := by decide +kernel
theorem dX1_acting_31 : decode cX1_acting 31 = .ok (.iconst (-1), 1) := by decide +kernel
theorem dX1_acting_32 : decode cX1_acting 32 = .ok (.goto 10, 3) := by decide +kernel
theorem dX1_acting_35 : decode cX1_acting 35 = .ok (.aload_n 0, 1) := by decide +kernel
theorem dX1_acting_36 : decode cX1_acting 36 = .ok (.iload_n 2, 1) := by decide +kernel
theorem dX1_acting_37 : decode cX1_acting 37 = .ok (.iload_n 3, 1) := by decide +kernel
theorem dX1_acting_38 : decode cX1_acting 38 = .ok (.iconst 1, 1) := by decide +kernel
theorem dX1_acting_39 : decode cX1_acting 39 = .ok (.invokevirtual 148, 3) := by decide +kernel
theorem dX1_acting_42 : decode cX1_acting 42 = .ok (.istore 4, 2) := by decide +kernel
theorem dX1_acting_44 : decode cX1_acting 44 = .ok (.iload 4, 2) := by decide +kernel
theorem dX1_acting_46 : decode cX1_acting 46 = .ok (.iconst 5, 1) := by decide +kernel
theorem dX1_acting_47 : decode cX1_acting 47 = .ok (.if_icmp .ne 10, 3) := by decide +kernel
theorem dX1_acting_50 : decode cX1_acting 50 = .ok (.aload_n 0, 1) := by decide +kernel
theorem dX1_acting_51 : decode cX1_acting 51 = .ok (.iconst 1, 1) := by decide +kernel
theorem dX1_acting_52 : decode cX1_acting 52 = .ok (.putfield 34, 3) := by decide +kernel
theorem dX1_acting_55 : decode cX1_acting 55 = .ok (.iconst 2, 1) := by decide +kernel
theorem dX1_acting_56 : decode cX1_acting 56 = .ok (.ireturn, 1) := by decide +kernel
theorem dX1_acting_57 : decode cX1_acting 57 = .ok (.iload 4, 2) := by decide +kernel
theorem dX1_acting_59 : decode cX1_acting 59 = .ok (.iconst 4, 1) := by decide +kernel
theorem dX1_acting_60 : decode cX1_acting 60 = .ok (.if_icmp .ne 5, 3) := by decide +kernel
theorem dX1_acting_63 : decode cX1_acting 63 = .ok (.iconst 3, 1) := by decide +kernel
theorem dX1_acting_64 : decode cX1_acting 64 = .ok (.ireturn, 1) := by decide +kernel
theorem dX1_acting_65 : decode cX1_acting 65 = .ok (.iload 4, 2) := by decide +kernel
theorem dX1_acting_67 : decode cX1_acting 67 = .ok (.iconst 2, 1) := by decide +kernel
theorem dX1_acting_68 : decode cX1_acting 68 = .ok (.if_icmp .ne 61, 3) := by decide +kernel
theorem dX1_acting_71 : decode cX1_acting 71 = .ok (.aload_n 0, 1) := by decide +kernel
theorem dX1_acting_72 : decode cX1_acting 72 = .ok (.getfield 61, 3) := by decide +kernel
theorem dX1_acting_75 : decode cX1_acting 75 = .ok (.aload_n 0, 1) := by decide +kernel
theorem dX1_acting_76 : decode cX1_acting 76 = .ok (.getfield 82, 3) := by decide +kernel
theorem dX1_acting_79 : decode cX1_acting 79 = .ok (.aload_n 0, 1) := by decide +kernel
theorem dX1_acting_80 : decode cX1_acting 80 = .ok (.getfield 13, 3) := by decide +kernel
theorem dX1_acting_83 : decode cX1_acting 83 = .ok (.iaload, 1) := by decide +kernel
theorem dX1_acting_84 : decode cX1_acting 84 = .ok (.iconst 1, 1) := by decide +kernel
theorem dX1_acting_85 : decode cX1_acting 85 = .ok (.bastore, 1) := by decide +kernel
theorem dX1_acting_86 : decode cX1_acting 86 = .ok (.iload_n 1, 1) := by decide +kernel
theorem dX1_acting_87 : decode cX1_acting 87 = .ok (.iconst 5, 1) := by decide +kernel
theorem dX1_acting_88 : decode cX1_acting 88 = .ok (.if_icmp .ne 5, 3) := by decide +kernel
theorem dX1_acting_91 : decode cX1_acting 91 = .ok (.iconst 4, 1) := by decide +kernel
theorem dX1_acting_92 : decode cX1_acting 92 = .ok (.ireturn, 1) := by decide +kernel
theorem dX1_acting_93 : decode cX1_acting 93 = .ok (.aload_n 0, 1) := by decide +kernel
theorem dX1_acting_94 : decode cX1_acting 94 = .ok (.getfield 91, 3) := by decide +kernel
theorem dX1_acting_97 : decode cX1_acting 97 = .ok (.iload_n 1, 1) := by decide +kernel
theorem dX1_acting_98 : decode cX1_acting 98 = .ok (.aload_n 0, 1) := by decide +kernel
theorem dX1_acting_99 : decode cX1_acting 99 = .ok (.getfield 76, 3) := by decide +kernel
theorem dX1_acting_102 : decode cX1_acting 102 = .ok (.aload_n 0, 1) := by decide +kernel
theorem dX1_acting_103 : decode cX1_acting 103 = .ok (.getfield 13, 3) := by decide +kernel
theorem dX1_acting_106 : decode cX1_acting 106 = .ok (.iaload, 1) := by decide +kernel
theorem dX1_acting_107 : decode cX1_acting 107 = .ok (.iastore, 1) := by decide +kernel
theorem dX1_acting_108 : decode cX1_acting 108 = .ok (.aload_n 0, 1) := by decide +kernel
theorem dX1_acting_109 : decode cX1_acting 109 = .ok (.getfield 94, 3) := by decide +kernel
theorem dX1_acting_112 : decode cX1_acting 112 = .ok (.iload_n 1, 1) := by decide +kernel
theorem dX1_acting_113 : decode cX1_acting 113 = .ok (.aload_n 0, 1) := by decide +kernel
theorem dX1_acting_114 : decode cX1_acting 114 = .ok (.getfield 79, 3) := by decide +kernel
theorem dX1_acting_117 : decode cX1_acting 117 = .ok (.aload_n 0, 1) := by decide +kernel
theorem dX1_acting_118 : decode cX1_acting 118 = .ok (.getfield 13, 3) := by decide +kernel
theorem dX1_acting_121 : decode cX1_acting 121 = .ok (.iaload, 1) := by decide +kernel
theorem dX1_acting_122 : decode cX1_acting 122 = .ok (.iastore, 1) := by decide +kernel
theorem dX1_acting_123 : decode cX1_acting 123 = .ok (.iinc 1 1, 3) := by decide +kernel
theorem dX1_acting_126 : decode cX1_acting 126 = .ok (.goto (-124), 3) := by decide +kernel
theorem dX1_acting_129 : decode cX1_acting 129 = .ok (.iload 4, 2) := by decide +kernel
theorem dX1_acting_131 : decode cX1_acting 131 = .ok (.iconst 3, 1) := by decide +kernel
theorem dX1_acting_132 : decode cX1_acting 132 = .ok (.if_icmp .ne 29, 3) := by decide +kernel
theorem dX1_acting_135 : decode cX1_acting 135 = .ok (.aload_n 0, 1) := by decide +kernel
theorem dX1_acting_136 : decode cX1_acting 136 = .ok (.aload_n 0, 1) := by decide +kernel
theorem dX1_acting_137 : decode cX1_acting 137 = .ok (.getfield 79, 3) := by decide +kernel
theorem dX1_acting_140 : decode cX1_acting 140 = .ok (.aload_n 0, 1) := by decide +kernel
theorem dX1_acting_141 : decode cX1_acting 141 = .ok (.getfield 13, 3) := by decide +kernel
theorem dX1_acting_144 : decode cX1_acting 144 = .ok (.iaload, 1) := by decide +kernel
theorem dX1_acting_145 : decode cX1_acting 145 = .ok (.putfield 31, 3) := by decide +kernel
theorem dX1_acting_148 : decode cX1_acting 148 = .ok (.aload_n 0, 1) := by decide +kernel
theorem dX1_acting_149 : decode cX1_acting 149 = .ok (.dup, 1) := by decide +kernel
theorem dX1_acting_150 : decode cX1_acting 150 = .ok (.getfield 22, 3) := by decide +kernel
theorem dX1_acting_153 : decode cX1_acting 153 = .ok (.iconst 1, 1) := by decide +kernel
theorem dX1_acting_154 : decode cX1_acting 154 = .ok (.iadd, 1) := by decide +kernel
theorem dX1_acting_155 : decode cX1_acting 155 = .ok (.putfield 22, 3) := by decide +kernel
theorem dX1_acting_158 : decode cX1_acting 158 = .ok (.goto 20, 3) := by decide +kernel
theorem dX1_acting_161 : decode cX1_acting 161 = .ok (.iload 4, 2) := by decide +kernel
theorem dX1_acting_163 : decode cX1_acting 163 = .ok (.ifCond .lt 9, 3) := by decide +kernel
theorem dX1_acting_166 : decode cX1_acting 166 = .ok (.aload_n 0, 1) := by decide +kernel
theorem dX1_acting_167 : decode cX1_acting 167 = .ok (.iload_n 2, 1) := by decide +kernel
theorem dX1_acting_168 : decode cX1_acting 168 = .ok (.iload_n 3, 1) := by decide +kernel
theorem dX1_acting_169 : decode cX1_acting 169 = .ok (.invokevirtual 152, 3) := by decide +kernel
theorem dX1_acting_172 : decode cX1_acting 172 = .ok (.aload_n 0, 1) := by decide +kernel
theorem dX1_acting_173 : decode cX1_acting 173 = .ok (.iload_n 2, 1) := by decide +kernel
theorem dX1_acting_174 : decode cX1_acting 174 = .ok (.iload_n 3, 1) := by decide +kernel
theorem dX1_acting_175 : decode cX1_acting 175 = .ok (.invokevirtual 155, 3) := by decide +kernel
theorem dX1_acting_178 : decode cX1_acting 178 = .ok (.iinc 1 (-1), 3) := by decide +kernel
theorem dX1_acting_181 : decode cX1_acting 181 = .ok (.goto (-179), 3) := by decide +kernel
theorem dX1_acting_184 : decode cX1_acting 184 = .ok (.iconst 0, 1) := by decide +kernel
theorem dX1_acting_185 : decode cX1_acting 185 = .ok (.ireturn, 1) := by decide +kernel
theorem dX1_act_0 : decode cX1_act 0 = .ok (.aload_n 0, 1) := by decide +kernel
theorem dX1_act_1 : decode cX1_act 1 = .ok (.iload_n 1, 1) := by decide +kernel
theorem dX1_act_2 : decode cX1_act 2 = .ok (.iconst 0, 1) := by decide +kernel
theorem dX1_act_3 : decode cX1_act 3 = .ok (.bipush 7, 2) := by decide +kernel
theorem dX1_act_5 : decode cX1_act 5 = .ok (.invokevirtual 97, 3) := by decide +kernel
theorem dX1_act_8 : decode cX1_act 8 = .ok (.ifCond .eq 9, 3) := by decide +kernel
theorem dX1_act_11 : decode cX1_act 11 = .ok (.aload_n 0, 1) := by decide +kernel
theorem dX1_act_12 : decode cX1_act 12 = .ok (.iconst 1, 1) := by decide +kernel
theorem dX1_act_13 : decode cX1_act 13 = .ok (.invokevirtual 101, 3) := by decide +kernel
theorem dX1_act_16 : decode cX1_act 16 = .ok (.ireturn, 1) := by decide +kernel
theorem dX1_act_17 : decode cX1_act 17 = .ok (.aload_n 0, 1) := by decide +kernel
theorem dX1_act_18 : decode cX1_act 18 = .ok (.getfield 91, 3) := by decide +kernel
theorem dX1_act_21 : decode cX1_act 21 = .ok (.iconst 0, 1) := by decide +kernel
theorem dX1_act_22 : decode cX1_act 22 = .ok (.iload_n 1, 1) := by decide +kernel
theorem dX1_act_23 : decode cX1_act 23 = .ok (.iastore, 1) := by decide +kernel
theorem dX1_act_24 : decode cX1_act 24 = .ok (.aload_n 0, 1) := by decide +kernel
theorem dX1_act_25 : decode cX1_act 25 = .ok (.getfield 94, 3) := by decide +kernel
theorem dX1_act_28 : decode cX1_act 28 = .ok (.iconst 0, 1) := by decide +kernel
theorem dX1_act_29 : decode cX1_act 29 = .ok (.iload_n 2, 1) := by decide +kernel
theorem dX1_act_30 : decode cX1_act 30 = .ok (.iastore, 1) := by decide +kernel
theorem dX1_act_31 : decode cX1_act 31 = .ok (.aload_n 0, 1) := by decide +kernel
theorem dX1_act_32 : decode cX1_act 32 = .ok (.getfield 34, 3) := by decide +kernel
theorem dX1_act_35 : decode cX1_act 35 = .ok (.ifCond .eq 7, 3) := by decide +kernel
theorem dX1_act_38 : decode cX1_act 38 = .ok (.iconst 2, 1) := by decide +kernel
theorem dX1_act_39 : decode cX1_act 39 = .ok (.goto 7, 3) := by decide +kernel
theorem dX1_act_42 : decode cX1_act 42 = .ok (.aload_n 0, 1) := by decide +kernel
theorem dX1_act_43 : decode cX1_act 43 = .ok (.invokevirtual 158, 3) := by decide +kernel
theorem dX1_act_46 : decode cX1_act 46 = .ok (.istore_n 3, 1) := by decide +kernel
theorem dX1_act_47 : decode cX1_act 47 = .ok (.iconst 0, 1) := by decide +kernel
theorem dX1_act_48 : decode cX1_act 48 = .ok (.istore 4, 2) := by decide +kernel
theorem dX1_act_50 : decode cX1_act 50 = .ok (.iload 4, 2) := by decide +kernel
theorem dX1_act_52 : decode cX1_act 52 = .ok (.bipush 40, 2) := by decide +kernel
theorem dX1_act_54 : decode cX1_act 54 = .ok (.if_icmp .ge 17, 3) := by decide +kernel
theorem dX1_act_57 : decode cX1_act 57 = .ok (.aload_n 0, 1) := by decide +kernel
theorem dX1_act_58 : decode cX1_act 58 = .ok (.getfield 61, 3) := by decide +kernel
theorem dX1_act_61 : decode cX1_act 61 = .ok (.iload 4, 2) := by decide +kernel
theorem dX1_act_63 : decode cX1_act 63 = .ok (.iconst 0, 1) := by decide +kernel
theorem dX1_act_64 : decode cX1_act 64 = .ok (.bastore, 1) := by decide +kernel
theorem dX1_act_65 : decode cX1_act 65 = .ok (.iinc 4 1, 3) := by decide +kernel
theorem dX1_act_68 : decode cX1_act 68 = .ok (.goto (-18), 3) := by decide +kernel
theorem dX1_act_71 : decode cX1_act 71 = .ok (.iload_n 3, 1) := by decide +kernel
theorem dX1_act_72 : decode cX1_act 72 = .ok (.ifCond .ne 12, 3) := by decide +kernel
theorem dX1_act_75 : decode cX1_act 75 = .ok (.aload_n 0, 1) := by decide +kernel
theorem dX1_act_76 : decode cX1_act 76 = .ok (.aload_n 0, 1) := by decide +kernel
theorem dX1_act_77 : decode cX1_act 77 = .ok (.getfield 31, 3) := by decide +kernel
theorem dX1_act_80 : decode cX1_act 80 = .ok (.invokevirtual 105, 3) := by decide +kernel
theorem dX1_act_83 : decode cX1_act 83 = .ok (.ireturn, 1) := by decide +kernel
theorem dX1_act_84 : decode cX1_act 84 = .ok (.aload_n 0, 1) := by decide +kernel
theorem dX1_act_85 : decode cX1_act 85 = .ok (.dup, 1) := by decide +kernel
theorem dX1_act_86 : decode cX1_act 86 = .ok (.getfield 25, 3) := by decide +kernel
theorem dX1_act_89 : decode cX1_act 89 = .ok (.iconst 1, 1) := by decide +kernel
theorem dX1_act_90 : decode cX1_act 90 = .ok (.iadd, 1) := by decide +kernel
theorem dX1_act_91 : decode cX1_act 91 = .ok (.putfield 25, 3) := by decide +kernel
theorem dX1_act_94 : decode cX1_act 94 = .ok (.aload_n 0, 1) := by decide +kernel
theorem dX1_act_95 : decode cX1_act 95 = .ok (.iload_n 3, 1) := by decide +kernel
theorem dX1_act_96 : decode cX1_act 96 = .ok (.invokevirtual 101, 3) := by decide +kernel
theorem dX1_act_99 : decode cX1_act 99 = .ok (.ireturn, 1) := by decide +kernel
theorem dX1_ask_0 : decode cX1_ask 0 = .ok (.aload_n 0, 1) := by decide +kernel
theorem dX1_ask_1 : decode cX1_ask 1 = .ok (.iload_n 1, 1) := by decide +kernel
theorem dX1_ask_2 : decode cX1_ask 2 = .ok (.iconst 0, 1) := by decide +kernel
theorem dX1_ask_3 : decode cX1_ask 3 = .ok (.bipush 7, 2) := by decide +kernel
theorem dX1_ask_5 : decode cX1_ask 5 = .ok (.invokevirtual 97, 3) := by decide +kernel
theorem dX1_ask_8 : decode cX1_ask 8 = .ok (.ifCond .eq 9, 3) := by decide +kernel
theorem dX1_ask_11 : decode cX1_ask 11 = .ok (.aload_n 0, 1) := by decide +kernel
theorem dX1_ask_12 : decode cX1_ask 12 = .ok (.iconst 1, 1) := by decide +kernel
theorem dX1_ask_13 : decode cX1_ask 13 = .ok (.invokevirtual 101, 3) := by decide +kernel
theorem dX1_ask_16 : decode cX1_ask 16 = .ok (.ireturn, 1) := by decide +kernel
theorem dX1_ask_17 : decode cX1_ask 17 = .ok (.aload_n 0, 1) := by decide +kernel
theorem dX1_ask_18 : decode cX1_ask 18 = .ok (.aload_n 0, 1) := by decide +kernel
theorem dX1_ask_19 : decode cX1_ask 19 = .ok (.getfield 13, 3) := by decide +kernel
theorem dX1_ask_22 : decode cX1_ask 22 = .ok (.ifCond .ge 7, 3) := by decide +kernel
theorem dX1_ask_25 : decode cX1_ask 25 = .ok (.iconst 0, 1) := by decide +kernel
theorem dX1_ask_26 : decode cX1_ask 26 = .ok (.goto 10, 3) := by decide +kernel
theorem dX1_ask_29 : decode cX1_ask 29 = .ok (.aload_n 0, 1) := by decide +kernel
theorem dX1_ask_30 : decode cX1_ask 30 = .ok (.iload_n 1, 1) := by decide +kernel
theorem dX1_ask_31 : decode cX1_ask 31 = .ok (.iload_n 2, 1) := by decide +kernel
theorem dX1_ask_32 : decode cX1_ask 32 = .ok (.iconst 0, 1) := by decide +kernel
theorem dX1_ask_33 : decode cX1_ask 33 = .ok (.invokevirtual 148, 3) := by decide +kernel
theorem dX1_ask_36 : decode cX1_ask 36 = .ok (.invokevirtual 105, 3) := by decide +kernel
theorem dX1_ask_39 : decode cX1_ask 39 = .ok (.ireturn, 1) := by decide +kernel
theorem dX1_detail_0 : decode cX1_detail 0 = .ok (.aload_n 0, 1) := by decide +kernel
theorem dX1_detail_1 : decode cX1_detail 1 = .ok (.iload_n 1, 1) := by decide +kernel
theorem dX1_detail_2 : decode cX1_detail 2 = .ok (.iconst 0, 1) := by decide +kernel
theorem dX1_detail_3 : decode cX1_detail 3 = .ok (.bipush 7, 2) := by decide +kernel
theorem dX1_detail_5 : decode cX1_detail 5 = .ok (.invokevirtual 97, 3) := by decide +kernel
theorem dX1_detail_8 : decode cX1_detail 8 = .ok (.ifCond .ne 13, 3) := by decide +kernel
theorem dX1_detail_11 : decode cX1_detail 11 = .ok (.aload_n 0, 1) := by decide +kernel
theorem dX1_detail_12 : decode cX1_detail 12 = .ok (.iload_n 3, 1) := by decide +kernel
theorem dX1_detail_13 : decode cX1_detail 13 = .ok (.iconst 0, 1) := by decide +kernel
theorem dX1_detail_14 : decode cX1_detail 14 = .ok (.iconst 2, 1) := by decide +kernel
theorem dX1_detail_15 : decode cX1_detail 15 = .ok (.invokevirtual 97, 3) := by decide +kernel
theorem dX1_detail_18 : decode cX1_detail 18 = .ok (.ifCond .eq 9, 3) := by decide +kernel
theorem dX1_detail_21 : decode cX1_detail 21 = .ok (.aload_n 0, 1) := by decide +kernel
theorem dX1_detail_22 : decode cX1_detail 22 = .ok (.iconst 1, 1) := by decide +kernel
theorem dX1_detail_23 : decode cX1_detail 23 = .ok (.invokevirtual 101, 3) := by decide +kernel
theorem dX1_detail_26 : decode cX1_detail 26 = .ok (.ireturn, 1) := by decide +kernel
theorem dX1_detail_27 : decode cX1_detail 27 = .ok (.aload_n 0, 1) := by decide +kernel
theorem dX1_detail_28 : decode cX1_detail 28 = .ok (.getfield 13, 3) := by decide +kernel
theorem dX1_detail_31 : decode cX1_detail 31 = .ok (.ifCond .ge 7, 3) := by decide +kernel
theorem dX1_detail_34 : decode cX1_detail 34 = .ok (.iconst 0, 1) := by decide +kernel
theorem dX1_detail_35 : decode cX1_detail 35 = .ok (.goto 10, 3) := by decide +kernel
theorem dX1_detail_38 : decode cX1_detail 38 = .ok (.aload_n 0, 1) := by decide +kernel
theorem dX1_detail_39 : decode cX1_detail 39 = .ok (.iload_n 1, 1) := by decide +kernel
theorem dX1_detail_40 : decode cX1_detail 40 = .ok (.iload_n 2, 1) := by decide +kernel
theorem dX1_detail_41 : decode cX1_detail 41 = .ok (.iconst 0, 1) := by decide +kernel
theorem dX1_detail_42 : decode cX1_detail 42 = .ok (.invokevirtual 148, 3) := by decide +kernel
theorem dX1_detail_45 : decode cX1_detail 45 = .ok (.istore 4, 2) := by decide +kernel
theorem dX1_detail_47 : decode cX1_detail 47 = .ok (.iload 4, 2) := by decide +kernel
theorem dX1_detail_49 : decode cX1_detail 49 = .ok (.iload_n 3, 1) := by decide +kernel
theorem dX1_detail_50 : decode cX1_detail 50 = .ok (.iconst 2, 1) := by decide +kernel
theorem dX1_detail_51 : decode cX1_detail 51 = .ok (.if_icmp .ne 7, 3) := by decide +kernel
theorem dX1_detail_54 : decode cX1_detail 54 = .ok (.iconst 3, 1) := by decide +kernel
theorem dX1_detail_55 : decode cX1_detail 55 = .ok (.goto 4, 3) := by decide +kernel
theorem dX1_detail_58 : decode cX1_detail 58 = .ok (.iconst 2, 1) := by decide +kernel
theorem dX1_detail_59 : decode cX1_detail 59 = .ok (.if_icmp .eq 9, 3) := by decide +kernel
theorem dX1_detail_62 : decode cX1_detail 62 = .ok (.aload_n 0, 1) := by decide +kernel
theorem dX1_detail_63 : decode cX1_detail 63 = .ok (.iconst 2, 1) := by decide +kernel
theorem dX1_detail_64 : decode cX1_detail 64 = .ok (.invokevirtual 101, 3) := by decide +kernel
theorem dX1_detail_67 : decode cX1_detail 67 = .ok (.ireturn, 1) := by decide +kernel
theorem dX1_detail_68 : decode cX1_detail 68 = .ok (.aload_n 0, 1) := by decide +kernel
theorem dX1_detail_69 : decode cX1_detail 69 = .ok (.iload_n 3, 1) := by decide +kernel
theorem dX1_detail_70 : decode cX1_detail 70 = .ok (.ifCond .ne 15, 3) := by decide +kernel
theorem dX1_detail_73 : decode cX1_detail 73 = .ok (.aload_n 0, 1) := by decide +kernel
theorem dX1_detail_74 : decode cX1_detail 74 = .ok (.getfield 76, 3) := by decide +kernel
theorem dX1_detail_77 : decode cX1_detail 77 = .ok (.aload_n 0, 1) := by decide +kernel
theorem dX1_detail_78 : decode cX1_detail 78 = .ok (.getfield 13, 3) := by decide +kernel
theorem dX1_detail_81 : decode cX1_detail 81 = .ok (.iaload, 1) := by decide +kernel
theorem dX1_detail_82 : decode cX1_detail 82 = .ok (.goto 12, 3) := by decide +kernel
theorem dX1_detail_85 : decode cX1_detail 85 = .ok (.aload_n 0, 1) := by decide +kernel
theorem dX1_detail_86 : decode cX1_detail 86 = .ok (.getfield 79, 3) := by decide +kernel
theorem dX1_detail_89 : decode cX1_detail 89 = .ok (.aload_n 0, 1) := by decide +kernel
theorem dX1_detail_90 : decode cX1_detail 90 = .ok (.getfield 13, 3) := by decide +kernel
theorem dX1_detail_93 : decode cX1_detail 93 = .ok (.iaload, 1) := by decide +kernel
theorem dX1_detail_94 : decode cX1_detail 94 = .ok (.invokevirtual 105, 3) := by decide +kernel
theorem dX1_detail_97 : decode cX1_detail 97 = .ok (.ireturn, 1) := by decide +kernel
theorem dX1_total_0 : decode cX1_total 0 = .ok (.aload_n 0, 1) := by decide +kernel
theorem dX1_total_1 : decode cX1_total 1 = .ok (.iload_n 1, 1) := by decide +kernel
theorem dX1_total_2 : decode cX1_total 2 = .ok (.iconst 0, 1) := by decide +kernel
theorem dX1_total_3 : decode cX1_total 3 = .ok (.bipush 7, 2) := by decide +kernel
theorem dX1_total_5 : decode cX1_total 5 = .ok (.invokevirtual 97, 3) := by decide +kernel
theorem dX1_total_8 : decode cX1_total 8 = .ok (.ifCond .eq 11, 3) := by decide +kernel
theorem dX1_total_11 : decode cX1_total 11 = .ok (.aload_n 0, 1) := by decide +kernel
theorem dX1_total_12 : decode cX1_total 12 = .ok (.iconst 1, 1) := by decide +kernel
theorem dX1_total_13 : decode cX1_total 13 = .ok (.invokevirtual 101, 3) := by decide +kernel
theorem dX1_total_16 : decode cX1_total 16 = .ok (.goto 13, 3) := by decide +kernel
theorem dX1_total_19 : decode cX1_total 19 = .ok (.aload_n 0, 1) := by decide +kernel
theorem dX1_total_20 : decode cX1_total 20 = .ok (.aload_n 0, 1) := by decide +kernel
theorem dX1_total_21 : decode cX1_total 21 = .ok (.getfield 67, 3) := by decide +kernel
theorem dX1_total_24 : decode cX1_total 24 = .ok (.iload_n 1, 1) := by decide +kernel
theorem dX1_total_25 : decode cX1_total 25 = .ok (.iaload, 1) := by decide +kernel
theorem dX1_total_26 : decode cX1_total 26 = .ok (.invokevirtual 105, 3) := by decide +kernel
theorem dX1_total_29 : decode cX1_total 29 = .ok (.ireturn, 1) := by decide +kernel
theorem dX1_state_0 : decode cX1_state 0 = .ok (.aload_n 0, 1) := by decide +kernel
theorem dX1_state_1 : decode cX1_state 1 = .ok (.aload_n 0, 1) := by decide +kernel
theorem dX1_state_2 : decode cX1_state 2 = .ok (.iload_n 1, 1) := by decide +kernel
theorem dX1_state_3 : decode cX1_state 3 = .ok (.invokevirtual 112, 3) := by decide +kernel
theorem dX1_state_6 : decode cX1_state 6 = .ok (.ifCond .ne 24, 3) := by decide +kernel
theorem dX1_state_9 : decode cX1_state 9 = .ok (.aload_n 0, 1) := by decide +kernel
theorem dX1_state_10 : decode cX1_state 10 = .ok (.getfield 38, 3) := by decide +kernel
theorem dX1_state_13 : decode cX1_state 13 = .ok (.iload_n 1, 1) := by decide +kernel
theorem dX1_state_14 : decode cX1_state 14 = .ok (.iaload, 1) := by decide +kernel
theorem dX1_state_15 : decode cX1_state 15 = .ok (.iconst 3, 1) := by decide +kernel
theorem dX1_state_16 : decode cX1_state 16 = .ok (.if_icmp .eq 18, 3) := by decide +kernel
theorem dX1_state_19 : decode cX1_state 19 = .ok (.aload_n 0, 1) := by decide +kernel
theorem dX1_state_20 : decode cX1_state 20 = .ok (.getfield 38, 3) := by decide +kernel
theorem dX1_state_23 : decode cX1_state 23 = .ok (.iload_n 1, 1) := by decide +kernel
theorem dX1_state_24 : decode cX1_state 24 = .ok (.iaload, 1) := by decide +kernel
theorem dX1_state_25 : decode cX1_state 25 = .ok (.bipush 6, 2) := by decide +kernel
theorem dX1_state_27 : decode cX1_state 27 = .ok (.if_icmp .eq 7, 3) := by decide +kernel
theorem dX1_state_30 : decode cX1_state 30 = .ok (.iconst (-1), 1) := by decide +kernel
theorem dX1_state_31 : decode cX1_state 31 = .ok (.goto 9, 3) := by decide +kernel
theorem dX1_state_34 : decode cX1_state 34 = .ok (.aload_n 0, 1) := by decide +kernel
theorem dX1_state_35 : decode cX1_state 35 = .ok (.getfield 54, 3) := by decide +kernel
theorem dX1_state_38 : decode cX1_state 38 = .ok (.iload_n 1, 1) := by decide +kernel
theorem dX1_state_39 : decode cX1_state 39 = .ok (.iaload, 1) := by decide +kernel
theorem dX1_state_40 : decode cX1_state 40 = .ok (.invokevirtual 105, 3) := by decide +kernel
theorem dX1_state_43 : decode cX1_state 43 = .ok (.ireturn, 1) := by decide +kernel
theorem dX1_noted_0 : decode cX1_noted 0 = .ok (.aload_n 0, 1) := by decide +kernel
theorem dX1_noted_1 : decode cX1_noted 1 = .ok (.iload_n 1, 1) := by decide +kernel
theorem dX1_noted_2 : decode cX1_noted 2 = .ok (.ifCond .lt 17, 3) := by decide +kernel
theorem dX1_noted_5 : decode cX1_noted 5 = .ok (.iload_n 1, 1) := by decide +kernel
theorem dX1_noted_6 : decode cX1_noted 6 = .ok (.bipush 15, 2) := by decide +kernel
theorem dX1_noted_8 : decode cX1_noted 8 = .ok (.if_icmp .gt 11, 3) := by decide +kernel
theorem dX1_noted_11 : decode cX1_noted 11 = .ok (.iload_n 1, 1) := by decide +kernel
theorem dX1_noted_12 : decode cX1_noted 12 = .ok (.aload_n 0, 1) := by decide +kernel
theorem dX1_noted_13 : decode cX1_noted 13 = .ok (.getfield 16, 3) := by decide +kernel
theorem dX1_noted_16 : decode cX1_noted 16 = .ok (.if_icmp .lt 7, 3) := by decide +kernel
theorem dX1_noted_19 : decode cX1_noted 19 = .ok (.iconst (-1), 1) := by decide +kernel
theorem dX1_noted_20 : decode cX1_noted 20 = .ok (.goto 9, 3) := by decide +kernel
theorem dX1_noted_23 : decode cX1_noted 23 = .ok (.aload_n 0, 1) := by decide +kernel
theorem dX1_noted_24 : decode cX1_noted 24 = .ok (.getfield 70, 3) := by decide +kernel
theorem dX1_noted_27 : decode cX1_noted 27 = .ok (.iload_n 1, 1) := by decide +kernel
theorem dX1_noted_28 : decode cX1_noted 28 = .ok (.iaload, 1) := by decide +kernel
theorem dX1_noted_29 : decode cX1_noted 29 = .ok (.invokevirtual 105, 3) := by decide +kernel
theorem dX1_noted_32 : decode cX1_noted 32 = .ok (.ireturn, 1) := by decide +kernel
theorem dX1_count_0 : decode cX1_count 0 = .ok (.aload_n 0, 1) := by decide +kernel
theorem dX1_count_1 : decode cX1_count 1 = .ok (.iconst 0, 1) := by decide +kernel
theorem dX1_count_2 : decode cX1_count 2 = .ok (.putfield 28, 3) := by decide +kernel
theorem dX1_count_5 : decode cX1_count 5 = .ok (.iload_n 1, 1) := by decide +kernel
theorem dX1_count_6 : decode cX1_count 6 = .ok (.ifCond .ne 10, 3) := by decide +kernel
theorem dX1_count_9 : decode cX1_count 9 = .ok (.aload_n 0, 1) := by decide +kernel
theorem dX1_count_10 : decode cX1_count 10 = .ok (.getfield 7, 3) := by decide +kernel
theorem dX1_count_13 : decode cX1_count 13 = .ok (.goto 85, 3) := by decide +kernel
theorem dX1_count_16 : decode cX1_count 16 = .ok (.iload_n 1, 1) := by decide +kernel
theorem dX1_count_17 : decode cX1_count 17 = .ok (.iconst 1, 1) := by decide +kernel
theorem dX1_count_18 : decode cX1_count 18 = .ok (.if_icmp .ne 10, 3) := by decide +kernel
theorem dX1_count_21 : decode cX1_count 21 = .ok (.aload_n 0, 1) := by decide +kernel
theorem dX1_count_22 : decode cX1_count 22 = .ok (.getfield 16, 3) := by decide +kernel
theorem dX1_count_25 : decode cX1_count 25 = .ok (.goto 73, 3) := by decide +kernel
theorem dX1_count_28 : decode cX1_count 28 = .ok (.iload_n 1, 1) := by decide +kernel
theorem dX1_count_29 : decode cX1_count 29 = .ok (.iconst 2, 1) := by decide +kernel
theorem dX1_count_30 : decode cX1_count 30 = .ok (.if_icmp .ne 10, 3) := by decide +kernel
theorem dX1_count_33 : decode cX1_count 33 = .ok (.aload_n 0, 1) := by decide +kernel
theorem dX1_count_34 : decode cX1_count 34 = .ok (.getfield 19, 3) := by decide +kernel
theorem dX1_count_37 : decode cX1_count 37 = .ok (.goto 61, 3) := by decide +kernel
theorem dX1_count_40 : decode cX1_count 40 = .ok (.iload_n 1, 1) := by decide +kernel
theorem dX1_count_41 : decode cX1_count 41 = .ok (.iconst 3, 1) := by decide +kernel
theorem dX1_count_42 : decode cX1_count 42 = .ok (.if_icmp .ne 10, 3) := by decide +kernel
theorem dX1_count_45 : decode cX1_count 45 = .ok (.aload_n 0, 1) := by decide +kernel
theorem dX1_count_46 : decode cX1_count 46 = .ok (.getfield 22, 3) := by decide +kernel
theorem dX1_count_49 : decode cX1_count 49 = .ok (.goto 49, 3) := by decide +kernel
theorem dX1_count_52 : decode cX1_count 52 = .ok (.iload_n 1, 1) := by decide +kernel
theorem dX1_count_53 : decode cX1_count 53 = .ok (.iconst 4, 1) := by decide +kernel
theorem dX1_count_54 : decode cX1_count 54 = .ok (.if_icmp .ne 10, 3) := by decide +kernel
theorem dX1_count_57 : decode cX1_count 57 = .ok (.aload_n 0, 1) := by decide +kernel
theorem dX1_count_58 : decode cX1_count 58 = .ok (.getfield 25, 3) := by decide +kernel
theorem dX1_count_61 : decode cX1_count 61 = .ok (.goto 37, 3) := by decide +kernel
theorem dX1_count_64 : decode cX1_count 64 = .ok (.iload_n 1, 1) := by decide +kernel
theorem dX1_count_65 : decode cX1_count 65 = .ok (.iconst 5, 1) := by decide +kernel
theorem dX1_count_66 : decode cX1_count 66 = .ok (.if_icmp .ne 18, 3) := by decide +kernel
theorem dX1_count_69 : decode cX1_count 69 = .ok (.aload_n 0, 1) := by decide +kernel
theorem dX1_count_70 : decode cX1_count 70 = .ok (.getfield 34, 3) := by decide +kernel
theorem dX1_count_73 : decode cX1_count 73 = .ok (.ifCond .eq 7, 3) := by decide +kernel
theorem dX1_count_76 : decode cX1_count 76 = .ok (.iconst 1, 1) := by decide +kernel
theorem dX1_count_77 : decode cX1_count 77 = .ok (.goto 21, 3) := by decide +kernel
theorem dX1_count_80 : decode cX1_count 80 = .ok (.iconst 0, 1) := by decide +kernel
theorem dX1_count_81 : decode cX1_count 81 = .ok (.goto 17, 3) := by decide +kernel
theorem dX1_count_84 : decode cX1_count 84 = .ok (.iload_n 1, 1) := by decide +kernel
theorem dX1_count_85 : decode cX1_count 85 = .ok (.bipush 6, 2) := by decide +kernel
theorem dX1_count_87 : decode cX1_count 87 = .ok (.if_icmp .ne 10, 3) := by decide +kernel
theorem dX1_count_90 : decode cX1_count 90 = .ok (.aload_n 0, 1) := by decide +kernel
theorem dX1_count_91 : decode cX1_count 91 = .ok (.getfield 13, 3) := by decide +kernel
theorem dX1_count_94 : decode cX1_count 94 = .ok (.goto 4, 3) := by decide +kernel
theorem dX1_count_97 : decode cX1_count 97 = .ok (.iconst (-1), 1) := by decide +kernel
theorem dX1_count_98 : decode cX1_count 98 = .ok (.ireturn, 1) := by decide +kernel
end
section
/-! methods that may throw, and calls of them under a handler: over the rows vx_ of the printed text -/
/-- words on classes that stay, though they are no links -/
def fw : List Cond := lw_tbl.filter (fun w => w.onTables && w.keepsFace)
theorem fw_to {s U : State} (hW : s.WarmedH U.vm) {w : Cond} (hg : w ∈ fw) {a a' : Array Value} (h : w.before a s = true) : w.before a' U = true := by
  have hq := (List.mem_filter.mp hg).2
  simp only [Bool.and_eq_true] at hq
  have h1 : w.before a (s.setVm U.vm) = true := Cond.before_shiftedFace (State.Shifted.of_warmed hW) _ hq.2 h
  exact va_tabs hq.1 (u := s.setVm U.vm) (U := U) rfl h1
def kc_sl : List (Nat × String) := [(61, "a number is out of range"), (74, "no such kind, or an operand is not as said"), (82, "an operand is used already"), (90, "the level is too high"), (98, "there are too many policies"), (108, "no such policy"), (114, "no such sort"), (128, "stopped"), (129, "forbidden"), (131, "too deep"), (141, "no such sort or what"), (143, "the suggestion is of another kind")]
def kc_nl : List (String × String) := [("java/lang/IllegalArgumentException", "java/lang/IllegalStateException"), ("java/lang/IllegalArgumentException", "java/lang/UnsupportedOperationException"), ("java/lang/IllegalArgumentException", "java/lang/ArithmeticException"), ("java/lang/IllegalStateException", "java/lang/IllegalArgumentException"), ("java/lang/IllegalStateException", "java/lang/UnsupportedOperationException"), ("java/lang/IllegalStateException", "java/lang/ArithmeticException"), ("java/lang/UnsupportedOperationException", "java/lang/IllegalArgumentException"), ("java/lang/UnsupportedOperationException", "java/lang/IllegalStateException"), ("java/lang/UnsupportedOperationException", "java/lang/ArithmeticException"), ("java/lang/ArithmeticException", "java/lang/IllegalArgumentException"), ("java/lang/ArithmeticException", "java/lang/IllegalStateException"), ("java/lang/ArithmeticException", "java/lang/UnsupportedOperationException")]
/-- what a throw, or a catch, asks of the machine's tables and of Throwable's statics -/
def kc_T (A : Nat → Prop) (U : State) : Prop := vx_Zq Bundle.tN "UNASSIGNED_STACK" Bundle.steD A U U.heap ∧ vx_Zq Bundle.tN "SUPPRESSED_SENTINEL" Bundle.listD A U U.heap ∧ (∀ w ∈ fw, w.before #[] U = true) ∧ (∀ q ∈ kc_sl, ∃ sa : Nat, vk_R "PolicyMonitor" q.1 q.2 sa U) ∧ ∀ q ∈ kc_nl, va_Nc q.1 q.2 U
theorem kc_T.to {A B : Nat → Prop} {u U : State} (h : kc_T A u) (hW : u.WarmedH U.vm) (hAB : ∀ q, B q → A q) (hq : ∀ a : Nat, a < u.heap.size → ¬ A a → U.heap[a]? = u.heap[a]?) : kc_T B U := by
  obtain ⟨h1, h2, h3, h4, h5⟩ := h
  refine ⟨((h1.kept hq).moved hW.alike).narrow hAB, ((h2.kept hq).moved hW.alike).narrow hAB, fun w hw => fw_to hW hw (h3 w hw), fun z hz => ?_, fun z hz => (h5 z hz).moved hW.alike⟩
  obtain ⟨sa, hs⟩ := h4 z hz
  exact ⟨sa, hs.warm hW⟩
section KX
def kc_PreX (av : List Value) (D : va_G) (cl : List vw_C) (tys : List (ClassId × FieldType)) (w : va_W) (sz : Nat) : Array Value → State → Prop := va_Pc av (fun U => U.heap.size = sz ∧ va_P D cl w U.heap ∧ va_K D cl tys U ∧ va_D (fun _ => True) w ∧ kc_T (va_A w sz) U)
/-- the end of a method that may throw: .inl: an int; .inr: an exception of that class -/
def kc_QX (o : Int32 ⊕ String) (D : va_G) (cl : List vw_C) (w w2 : va_W) (sz : Nat) : Array Value → State → Outcome → State → Prop := fun a st oc t => ∃ r : Int32, o = .inl r ∧ kc_Post (some (.int r)) D cl w w2 sz a st oc t
def kc_XX (o : Int32 ⊕ String) (D : va_G) (cl : List vw_C) (w w2 : va_W) (sz : Nat) : String → State → State → Prop := fun E st t => o = .inr E ∧ va_P D cl w2 t.heap ∧ va_D (va_A w sz) w2 ∧ va_F (va_A w sz) st t
def kc_MX (l : Launch) (y : MethodName) (bytes : ByteArray) (maxL : Nat) (ret : Option FieldType) (fr lo mc ms : Nat) (av : List Value) (D : va_G) (cl : List vw_C) (tys : List (ClassId × FieldType)) (w : va_W) (o : Int32 ⊕ String) (w2 : va_W) : Prop :=
  ∀ sz : Nat, vx_Met l y (Cond.code y bytes maxL ret :: tw) { frames := fr, cells := mc, slots := ms, locals := lo } (kc_PreX av D cl tys w sz) (kc_QX o D cl w w2 sz) (kc_XX o D cl w w2 sz) mc ms (va_A w sz)
/-- a method with handlers that always answers -/
def kc_MW (l : Launch) (y : MethodName) (bytes : ByteArray) (maxL : Nat) (ret : Option FieldType) (hh : List (Nat × Nat × Nat × Nat)) (fr lo mc ms : Nat) (av : List Value) (D : va_G) (cl : List vw_C) (tys : List (ClassId × FieldType)) (w : va_W) (r : Option Value) (w2 : va_W) : Prop :=
  ∀ sz : Nat, Met l y (Cond.codeWith y bytes maxL ret hh :: tw) { frames := fr, cells := mc, slots := ms, locals := lo } (kc_PreX av D cl tys w sz) (kc_Post r D cl w w2 sz) mc ms (va_A w sz)
theorem kc_blindX {av : List Value} {D : va_G} {cl : List vw_C} {tys : List (ClassId × FieldType)} {w : va_W} {sz : Nat} : FrameBlind (kc_PreX av D cl tys w sz) := fun a U g mk q => by
  obtain ⟨q0, q1, qP, qK, qD, qT⟩ := q
  exact ⟨q0, q1, qP, va_K.moved (u := U) (U := U.calling g mk a) (Vm.Alike.refl U.vm) qK, qD, qT.to (u := U) (U := U.calling g mk a) (State.WarmedH.refl U) (fun _ h => h) (fun _ _ _ => rfl)⟩
theorem kc_startX {l : Launch} {y : MethodName} {bytes : ByteArray} {maxL : Nat} {ret : Option FieldType} {fr lo mc ms : Nat} {av : List Value} {D : va_G} {cl : List vw_C} {tys : List (ClassId × FieldType)} {w w2 : va_W} {o : Int32 ⊕ String} (own : String) (hy : plainName y.cls = true) (hcls : y.cls = own) (hlen : (lg_sl av).length ≤ maxL)
    (body : ∀ (p : Program) (e : Env) (s : State) (m : MethodId) (below : List Frame) (meth : Method) (c : Code), kc_C p s m av.toArray c bytes maxL own D cl tys (va_A w s.heap.size) → meth.sig.returnType = ret → meth.locks = false → (∀ x ∈ c.exceptionTable.toList, False) → kc_T (va_A w s.heap.size) s →
      kc_W p l e { frames := fr, cells := mc, slots := ms, locals := lo } s m av.toArray below meth c D cl (va_A w s.heap.size) maxL (vx_MQ below (kc_QX o D cl w w2 s.heap.size) (kc_XX o D cl w w2 s.heap.size) av.toArray s mc ms (va_A w s.heap.size)) 0 (lv_args 0 av) [] w (0, 0)) :
    kc_MX l y bytes maxL ret fr lo mc ms av D cl tys w o w2 := by
  intro sz
  refine vx_ofW (cc := bytes) (maxL := maxL) (ret := ret) hy rfl ?_
  intro p e s m args below meth c s₁ B hml hnh hv
  obtain ⟨rfl, hsz, hP, hK, hD0, hT⟩ := hv
  subst hsz
  have hts := atoms_spec (ws := Cond.code y bytes maxL ret :: tw) B.pre
  have hown : s.vm.findClass own = some m.cls := by rw [← hcls]; exact findClass_of_methodNamed B.named
  have hl := lv_entry av (n := maxL) hlen
  rw [lg_entry_eq]
  exact body p e s m below meth c ⟨B.exec, B.bytes, hml, hown, fun w hw => hts w (List.mem_cons_of_mem _ hw), hK, fun q hq => Or.inr hq⟩ B.returns B.notSynchronized hnh hT s.heap [] _ hP hD0.self va_S.rf hl
theorem kc_startW {l : Launch} {y : MethodName} {bytes : ByteArray} {maxL : Nat} {ret : Option FieldType} {hh : List (Nat × Nat × Nat × Nat)} {fr lo mc ms : Nat} {av : List Value} {D : va_G} {cl : List vw_C} {tys : List (ClassId × FieldType)} {w w2 : va_W} {r : Option Value} (own : String) (hy : plainName y.cls = true) (hcls : y.cls = own) (hlen : (lg_sl av).length ≤ maxL)
    (body : ∀ (p : Program) (e : Env) (s : State) (m : MethodId) (below : List Frame) (meth : Method) (c : Code), kc_C p s m av.toArray c bytes maxL own D cl tys (va_A w s.heap.size) → meth.sig.returnType = ret → meth.locks = false → c.exceptionTable.toList = tableOf hh → kc_T (va_A w s.heap.size) s →
      kc_W p l e { frames := fr, cells := mc, slots := ms, locals := lo } s m av.toArray below meth c D cl (va_A w s.heap.size) maxL (MQ below (kc_Post r D cl w w2 s.heap.size) av.toArray s mc ms (va_A w s.heap.size)) 0 (lv_args 0 av) [] w (0, 0)) :
    kc_MW l y bytes maxL ret hh fr lo mc ms av D cl tys w r w2 := by
  intro sz
  refine va_MetW (cc := bytes) (maxL := maxL) (ret := ret) (hh := hh) hy rfl ?_
  intro p e s m args below meth c s₁ B hml hv
  obtain ⟨rfl, hsz, hP, hK, hD0, hT⟩ := hv
  subst hsz
  have hts := atoms_spec (ws := Cond.codeWith y bytes maxL ret hh :: tw) B.pre
  have hown : s.vm.findClass own = some m.cls := by rw [← hcls]; exact findClass_of_methodNamed B.named
  have hl := lv_entry av (n := maxL) hlen
  have htab := vx_table (x := y) B (hts _ List.mem_cons_self)
  rw [lg_entry_eq]
  exact body p e s m below meth c ⟨B.exec, B.bytes, hml, hown, fun w hw => hts w (List.mem_cons_of_mem _ hw), hK, fun q hq => Or.inr hq⟩ B.returns B.notSynchronized htab hT s.heap [] _ hP hD0.self va_S.rf hl
end KX
section KY
variable {p : Program} {l : Launch} {e : Env} {R : Room} {s : State} {m : MethodId} {args : Array Value} {below : List Frame} {meth : Method} {c : Code} {Q : State → Prop}
variable {cc : ByteArray} {nL : Nat} {own : String} {D : va_G} {cl : List vw_C} {tys : List (ClassId × FieldType)} {A : Nat → Prop}
variable {pc : Nat} {lv lv' : List (Nat × Value)} {st st0 : List Value} {ws ws' w w2 wr : va_W} {u : Nat × Nat} {mc ms : Nat} {o : Int32 ⊕ String}
theorem kr_iretX {v : Int32} (h : kc_C p s m args c cc nL own D cl tys (va_A w s.heap.size)) (hr : meth.sig.returnType = some .int) (hlk : meth.locks = false) (hdg : decode cc pc = .ok (.ireturn, 1)) (hq : o = .inl v) (hw : ws = w2) (h1 : u.1 ≤ mc) (h2 : u.2 ≤ ms) :
    kc_W p l e R s m args below meth c D cl (va_A w s.heap.size) nL (vx_MQ below (kc_QX o D cl w w2 s.heap.size) (kc_XX o D cl w w2 s.heap.size) args s mc ms (va_A w s.heap.size)) pc lv [.int v] ws u := by
  subst hq; subst hw
  exact fun H locs ls hP hD hS hv => vx_ret (W.widen h1 h2 (W.iret h.1 h.2.1 hr (fun t ht hW => ⟨v, rfl, rfl, by rw [ht]; exact hP, hD, hS.F ht⟩) hS.2.2 hdg hlk))
/-- the words that 'throw new X(text)' asks -/
def kc_tx (own : String) (i1 i3 : Nat) (X : String) : Prop := Bundle.fit X = true ∧ Cond.classLink own i1 X ∈ tw ∧ Cond.initialized X ∈ tw ∧ (∀ w ∈ vx_atS own i3 X ["java/lang/RuntimeException", "java/lang/Exception"], w ∈ tw ∨ w ∈ fw) ∧ (∀ w ∈ Cond.classLink own i1 X :: Cond.initialized X :: vx_atS own i3 X ["java/lang/RuntimeException", "java/lang/Exception"], vx_ot w = true)
theorem kr_throw (h : kc_C p s m args c cc nL "PolicyMonitor" D cl tys (va_A w s.heap.size)) (hlk : meth.locks = false) (hnh : ∀ x ∈ c.exceptionTable.toList, False) (hT : kc_T (va_A w s.heap.size) s) (hl : l.stackTraces = false)
    {X tx : String} {i1 i2 i3 : Nat} (hX : kc_tx "PolicyMonitor" i1 i3 X) (hsl : (i2, tx) ∈ kc_sl)
    (hd0 : decode cc pc = .ok (.new i1, 3)) (hd3 : decode cc (pc + 3) = .ok (.dup, 1)) (hd4 : decode cc (pc + 4) = .ok (.ldc i2, 2)) (hd6 : decode cc (pc + 6) = .ok (.invokespecial i3, 3)) (hd9 : decode cc (pc + 9) = .ok (.athrow, 1))
    (hR : 6 ≤ R.frames) (hRl : (st.map fun v => v.category).sum + 82 ≤ R.locals) (hcells : u.1 + 1 ≤ R.cells) (hslots : u.2 + 6 ≤ R.slots) (hm1 : u.1 + 1 ≤ mc) (hm2 : u.2 + 6 ≤ ms) (ho : o = .inr X) (hw : ws = w2) :
    kc_W p l e R s m args below meth c D cl (va_A w s.heap.size) nL (vx_MQ below (kc_QX o D cl w w2 s.heap.size) (kc_XX o D cl w w2 s.heap.size) args s mc ms (va_A w s.heap.size)) pc lv st ws u := by
  subst hw
  intro H locs ls hP hD hS hv
  obtain ⟨hx, hb, hml, hown, hts, hK, hA⟩ := h
  obtain ⟨sa, hsa⟩ := hT.2.2.2.1 _ hsl
  refine vx_throwS hx hb hl (names := ["java/lang/RuntimeException", "java/lang/Exception"]) (A := va_A w s.heap.size) hown hX.1 (by decide +kernel) (hts _ hX.2.1) (hts _ hX.2.2.1) hsa (fun z hz => ?_) hX.2.2.2.2 hT.1 hT.2.1 hS (hv.1.trans hml.symm) hd0 hd3 hd4 hd6 hd9 (fun x hx => (hnh x hx).elim) hR hRl hcells hslots hlk (fun t hvm hz hk => ?_) hS.2.2 hm1 hm2
  · rcases hX.2.2.2.1 z hz with q | q
    · exact hts z q
    · exact fw_to (State.WarmedH.refl s) q (hT.2.2.1 z q)
  · exact ⟨ho, hP.kept (fun k q hq => hk _ ((hP k q hq).lt)), hD, Nat.le_trans hS.1 hz, fun q h1 h2 => (hk q (Nat.lt_of_lt_of_le h1 hS.1)).trans (hS.2.1 q h1 h2)⟩
/-- an exception of the class E stands over the frame -/
def kc_V (p : Program) (l : Launch) (e : Env) (R : Room) (s : State) (m : MethodId) (args : Array Value) (below : List Frame) (meth : Method) (c : Code) (D : va_G) (cl : List vw_C) (A : Nat → Prop) (nL : Nat) (Q : State → Prop) (pc : Nat) (lv : List (Nat × Value)) (st : List Value) (ws : va_W) (u : Nat × Nat) (E : String) : Prop :=
  ∀ (H : Heap) (locs : List Loc) (ls : Array Slot) (q9 : Nat) (ce : Cell), va_P D cl ws H → va_D A ws → va_S A s.heap H locs → lv_has ls nL lv → H[q9]? = some ce → ce.vm = .none → s.vm.findClass E = some ce.cls → vx_W p l e R s m args below meth c H locs u.1 u.2 Q (F0 m pc ls st) q9
theorem kr_catch (h : kc_C p s m args c cc nL own D cl tys A) (hT : kc_T A s) {E : String} {hh : List (Nat × Nat × Nat × Nat)} (htab : c.exceptionTable.toList = tableOf hh) (pre : List (Nat × Nat × Nat × Nat × String)) {x : Nat × Nat × Nat × Nat} {suf : List (Nat × Nat × Nat × Nat)} (hsp : hh = pre.map (fun z => (z.1, z.2.1, z.2.2.1, z.2.2.2.1)) ++ x :: suf)
    (hpass : ∀ z ∈ pre, z.2.2.2.1 ≠ 0 ∧ Cond.classLink own z.2.2.2.1 z.2.2.2.2 ∈ tw ∧ (E, z.2.2.2.2) ∈ kc_nl) (hx : covers ⟨x.1, x.2.1, x.2.2.1, x.2.2.2⟩ pc = true) (h0 : x.2.2.2 ≠ 0) (hlink : Cond.classLink own x.2.2.2 E ∈ tw) (hcast : Cond.castable E E ∈ fw)
    (kk : ∀ a : Nat, kc_W p l e R s m args below meth c D cl A nL Q x.2.2.1 lv [.ref a] ws u) : kc_V p l e R s m args below meth c D cl A nL Q pc lv st ws u E := by
  intro H locs ls q9 ce hP hD hS hv hc hvm hcl
  obtain ⟨hx', hb, hml, hown, hts, hK, hA⟩ := h
  refine vx_catch hown (tableOf (pre.map (fun z => (z.1, z.2.1, z.2.2.1, z.2.2.2.1)))) ⟨x.1, x.2.1, x.2.2.1, x.2.2.2⟩ (tableOf suf) (by rw [htab, hsp]; simp [tableOf]) (fun z hz => ?_) hx h0 (hts _ hlink) (fw_to (State.WarmedH.refl s) hcast (hT.2.2.1 _ hcast)) hc hvm hcl (kk q9 H locs ls hP hD hS hv)
  simp only [tableOf, List.map_map, List.mem_map] at hz
  obtain ⟨y, hy, rfl⟩ := hz
  obtain ⟨h1, h2, h3⟩ := hpass y hy
  exact Or.inr ⟨h1, y.2.2.2.2, hts _ h2, hT.2.2.2.2 _ h3⟩
/-- a call, under a handler, of a method that may throw -/
theorem kr_try (h : kc_C p s m args c cc nL own D cl tys A) (hr : ∀ (H : Heap) (locs : List Loc) (ls : Array Slot), va_P D cl ws H → va_D A ws → va_S A s.heap H locs → lv_has ls nL lv → ∃ a : Array Value, vx_Run p l e R s m args below meth c H locs u.1 u.2 mc ms (F0 m pc ls st0) st (kc_QX o D cl w w2 H.size a) (kc_XX o D cl w w2 H.size) (va_A w H.size)) (isC isR pm : List Nat) (hC : isC.map (fun i => ws[i]?) = w.map some) (hRr : isR.map (fun i => ws[i]?) = wr.map some) (hn : va_nd isR = true) (hdis : ∀ i ∈ isR, i ∉ isC)
    (hpm : pm.map (fun i => (wr ++ w2)[i]?) = ws'.map some) (hpn : va_nd pm = true)
    (kk : ∀ r : Int32, o = .inl r → kc_W p l e R s m args below meth c D cl A nL Q (pc + 3) lv (.int r :: st) ws' (u.1 + mc, u.2 + ms))
    (kx : ∀ E : String, o = .inr E → kc_V p l e R s m args below meth c D cl A nL Q pc lv st ws' (u.1 + mc, u.2 + ms) E) : kc_W p l e R s m args below meth c D cl A nL Q pc lv st0 ws u := by
  intro H locs ls hP hD hS hv T hT X
  obtain ⟨a, hrun⟩ := hr H locs ls hP hD hS hv
  have hF := va_free (wc := w) hD hS h.2.2.2.2.2.2 isC hC
  rcases hrun T hT X with ⟨v, st₀, t, T', L, h0, X', hL, e1, e2, ⟨r, ho, hv', hP1, hD1, hz, hk⟩, stp⟩ | ⟨q9, st₀, t, T', L, E, ce, h0, X', hL, e1, e2, ⟨ho, hP1, hD1, hz, hk⟩, hce, hcv, hcl, stp⟩
  · cases hv'
    rw [h0] at hz hk
    obtain ⟨hP2, hD2⟩ := va_join (wr := wr) (w1 := w2) hP hD isC isR hC hRr hn hdis hk hF hP1 hD1
    obtain ⟨t2, a1, b1⟩ := kk r ho t.heap (locs ++ L) ls (hP2.sub pm (kc_fm hpm)) (hD2.sub pm hpn hpm) (kc_after hS hF hz hk hL) hv T' e1 X'
    exact ⟨t2, stp t2 a1, b1⟩
  · rw [h0] at hz hk
    obtain ⟨hP2, hD2⟩ := va_join (wr := wr) (w1 := w2) hP hD isC isR hC hRr hn hdis hk hF hP1 hD1
    obtain ⟨t2, a1, b1⟩ := kx E ho t.heap (locs ++ L) ls q9 ce (hP2.sub pm (kc_fm hpm)) (hD2.sub pm hpn hpm) (kc_after hS hF hz hk hL) hv hce hcv hcl T' e1 X'
    exact ⟨t2, stp.trans a1, b1⟩
/-- the run of an instance method that may throw -/
theorem kc_rX (h : kc_C p s m args c cc nL own D cl tys A) (hT : kc_T A s) {y : MethodName} {bytes : ByteArray} {maxL : Nat} {ret : Option FieldType} {fr lo idx n : Nat} {C : String} {b : Nat} {av : List Value} (hM : kc_MX l y bytes maxL ret fr lo mc ms (.ref b :: av) D cl tys w o w2) (hml : Cond.methodLink own idx y ∈ tw) (hy : kc_yv y bytes maxL ret C n) (hdg : decode cc pc = .ok (.invokevirtual idx, 3)) (hn : av.length = n) (hst : st0 = av.reverse ++ .ref b :: st) (hR : fr + 1 ≤ R.frames ∧ 8 + (maxL + 11) + lo ≤ R.locals) (hf : u.1 + mc ≤ R.cells ∧ u.2 + ms ≤ R.slots) (hcat : (st.map fun v => v.category).sum ≤ 8) (isC : List Nat) (hC : isC.map (fun i => ws[i]?) = w.map some) (hCn : va_nd isC = true) (q0 : Nat) {ci : Nat} {q : vw_C} {fs : List Value} (hc : cl[ci]? = some q) (hcC : q.1 = C) (he : ws[q0]? = some (b, .inr (ci, fs))) :
    ∀ (H : Heap) (locs : List Loc) (ls : Array Slot), va_P D cl ws H → va_D A ws → va_S A s.heap H locs → lv_has ls nL lv → ∃ a : Array Value, vx_Run p l e R s m args below meth c H locs u.1 u.2 mc ms (F0 m pc ls st0) st (kc_QX o D cl w w2 H.size a) (kc_XX o D cl w w2 H.size) (va_A w H.size) := by
  intro H locs ls hP hD hS hv
  subst hcC
  have hF := va_free (wc := w) hD hS h.2.2.2.2.2.2 isC hC
  refine ⟨(.ref b :: av).toArray, vx_runV (As := av) (rest := st) ⟨h.1, h.2.1, h.2.2.1, h.2.2.2.1, h.2.2.2.2.1⟩ (hM H.size) (cwV n h.2.2.2.2.1 (fun x hx => tw_good x ?_) rfl rfl rfl hy.2.2.2.2 hR) ⟨kc_blindX, va_recv h.2.2.2.2.2.1 hP hc he, fun U hU hW => ⟨rfl, by rw [hU], by rw [hU]; exact hP.sub isC (kc_fm hC), va_K.moved hW.alike h.2.2.2.2.2.1, (hD.sub isC hCn hC).weaken (fun _ _ _ _ => trivial), hT.to hW hF (fun a h1 h2 => by rw [hU]; exact hS.2.1 a h1 h2)⟩⟩ rfl hn hv.1 hst (lv_room hcat) hdg hf⟩
  simp only [wsV, List.mem_append, List.mem_cons, List.not_mem_nil, or_false] at hx
  rcases hx with (rfl | rfl | rfl | rfl) | rfl | hx
  · exact hml
  · exact hy.1
  · exact hy.2.1
  · exact hy.2.2.1
  · exact hy.2.2.2.1
  · exact hx
/-- the run of a static method with handlers -/
theorem kc_rW (h : kc_C p s m args c cc nL own D cl tys A) (hT : kc_T A s) {y : MethodName} {bytes : ByteArray} {maxL : Nat} {ret : Option FieldType} {hh : List (Nat × Nat × Nat × Nat)} {fr lo idx n : Nat} {av : List Value} {r : Option Value} (hM : kc_MW l y bytes maxL ret hh fr lo mc ms av D cl tys w r w2) (hml : Cond.methodLink own idx y ∈ tw) (hst0 : Cond.static y ∈ tw) (hin : Cond.initialized y.cls ∈ tw) (hcd : Cond.codeWith y bytes maxL ret hh ∈ tw) (hy : y.cls ≠ "java/lang/invoke/MethodHandle" ∧ y.cls ≠ "java/lang/invoke/VarHandle" ∧ (parseMethodDescriptor y.desc).map (fun d => d.parameters.length) = some n) (hdg : decode cc pc = .ok (.invokestatic idx, 3)) (hn : av.length = n) (hst : st0 = av.reverse ++ st) (hR : fr + 1 ≤ R.frames ∧ 8 + (maxL + 11) + lo ≤ R.locals) (hf : u.1 + mc ≤ R.cells ∧ u.2 + ms ≤ R.slots) (hcat : (st.map fun v => v.category).sum ≤ 8) (isC : List Nat) (hC : isC.map (fun i => ws[i]?) = w.map some) (hCn : va_nd isC = true) (H : Heap) (locs : List Loc) (ls : Array Slot) (hP : va_P D cl ws H) (hD : va_D A ws) (hS : va_S A s.heap H locs) (hv : lv_has ls nL lv) :
    ∃ a : Array Value, va_Run p l e R s m args below meth c H locs u.1 u.2 mc ms (F0 m pc ls st0) st (kc_Post r D cl w w2 H.size a) (va_A w H.size) := by
  have hF := va_free (wc := w) hD hS h.2.2.2.2.2.2 isC hC
  refine ⟨av.toArray, vx_runSW (As := av) (rest := st) ⟨h.1, h.2.1, h.2.2.1, h.2.2.2.1, h.2.2.2.2.1⟩ (hM H.size) (vx_cwSW n h.2.2.2.2.1 (fun x hx => tw_good x ?_) rfl rfl rfl hy hR) ⟨kc_blindX, fun U hU hW => ⟨rfl, by rw [hU], by rw [hU]; exact hP.sub isC (kc_fm hC), va_K.moved hW.alike h.2.2.2.2.2.1, (hD.sub isC hCn hC).weaken (fun _ _ _ _ => trivial), hT.to hW hF (fun a h1 h2 => by rw [hU]; exact hS.2.1 a h1 h2)⟩⟩ rfl hn hv.1 hst (lv_room hcat) hdg hf⟩
  simp only [va_wsS, List.mem_append, List.mem_cons, List.not_mem_nil, or_false] at hx
  rcases hx with (rfl | rfl | rfl) | rfl | hx
  · exact hml
  · exact hst0
  · exact hin
  · exact hcd
  · exact hx
end KY
end
section
theorem kc_n1 : vp_nar .boolean 1 = 1 := rfl
theorem kc_n0 : vp_nar .boolean 0 = 0 := rfl
theorem kr_zastN {p : Program} {l : Launch} {e : Env} {R : Room} {s : State} {m : MethodId} {args : Array Value} {below : List Frame} {meth : Method} {c : Code} {Q : State → Prop} {cc : ByteArray} {nL : Nat} {own : String} {D : va_G} {cl : List vw_C} {tys : List (ClassId × FieldType)} {A : Nat → Prop} {pc : Nat} {lv : List (Nat × Value)} {st : List Value} {ws ws' : va_W} {u : Nat × Nat}
    (h : kc_C p s m args c cc nL own D cl tys A) (q0 t0 : Nat) {a : Nat} {cA : ClassId} {n : Nat} {f : Nat → Int32} {i x y : Int32} (hn : vp_nar .boolean x = y) (hdg : decode cc pc = .ok (.bastore, 1)) (ha : ws[q0]? = some (a, .inl (cA, n, .inl f))) (ht : tys[t0]? = some (cA, .boolean)) (hin : vp_in i n) (hw : ws.set q0 (a, .inl (cA, n, .inl (upd f i.toNatClampNeg y))) = ws') (kk : kc_W p l e R s m args below meth c D cl A nL Q (pc + 1) lv st ws' u) : kc_W p l e R s m args below meth c D cl A nL Q pc lv (.int x :: .int i :: .ref a :: st) ws u := by
  subst hn
  exact kr_zast h q0 t0 hdg ha ht hin hw kk
end
section
/-! the class's state as a value, and the world of its cells -/
abbrev vwCl : List vw_C := [(RX0, TX0, 19), (RX1, TX1, 28)]
abbrev tyL (cI cZ cJ : ClassId) : List (ClassId × FieldType) := [(cI, .int), (cZ, .boolean), (cJ, .long)]
/-! the class's state as a value: rows of ints by number, ints by number; what its methods do, as functions
rows: 0 kinds, 1 operandA, 2 operandB, 3 operandC, 4 levels, 5 used, 6 progress, 7 spent, 8 entries, 9 totals, 10 notes
ints: 0 policyCount, 1 noteCount, 2 doneCount, 3 replacedCount, 4 thrownCount, 5 installed, 6 stopped, 7 answer -/
abbrev xSt : Type := (Nat → Nat → Int32) × (Nat → Int32)
def xA (x : xSt) (k : Nat) (f : Nat → Int32) : xSt := (va_up x.1 k f, x.2)
def xI (x : xSt) (j : Nat) (v : Int32) : xSt := (x.1, va_up x.2 j v)
/-- the object's cell and its rows'; q: their addresses -/
def wX (cI cZ : ClassId) (q : Nat → Nat) (x : xSt) : va_W := [(q 0, .inr (0, [.ref (q 1), .ref (q 2), .ref (q 3), .ref (q 4), .ref (q 5), .ref (q 6), .ref (q 7), .ref (q 8), .ref (q 9), .ref (q 10), .ref (q 11), .int (x.2 0), .int (x.2 1), .int (x.2 2), .int (x.2 3), .int (x.2 4), .int (x.2 5), .int (x.2 6), .int (x.2 7)])), (q 1, .inl (cI, 40, .inl (x.1 0))), (q 2, .inl (cI, 40, .inl (x.1 1))), (q 3, .inl (cI, 40, .inl (x.1 2))), (q 4, .inl (cI, 40, .inl (x.1 3))), (q 5, .inl (cI, 40, .inl (x.1 4))), (q 6, .inl (cZ, 40, .inl (x.1 5))), (q 7, .inl (cI, 40, .inl (x.1 6))), (q 8, .inl (cZ, 40, .inl (x.1 7))), (q 9, .inl (cI, 96, .inl (x.1 8))), (q 10, .inl (cI, 8, .inl (x.1 9))), (q 11, .inl (cI, 16, .inl (x.1 10)))]
abbrev tn (i : Int32) : Nat := i.toNatClampNeg
abbrev xb (P : Prop) [Decidable P] : Int32 := if P then 1 else 0
abbrev pBelow (a b : Int32) : Prop := ¬ a < 0 ∧ ¬ b ≤ a
abbrev pIn (a s : Int32) : Prop := (a >>> (s &&& 31)) &&& 1 = 1
abbrev pPair (k : Int32) : Prop := k = 8 ∨ k = 9 ∨ k = 10 ∨ k = 11
abbrev pA (k : Int32) : Prop := pPair k ∨ k = 13 ∨ k = 14
abbrev pB (k : Int32) : Prop := pPair k ∨ k = 12
abbrev pTurn (k : Int32) : Prop := k = 1 ∨ k = 4 ∨ k = 5
def xKind (g : Int32) : Int32 := g - g / 8 * 8
def xSrc (g : Int32) : Int32 := g / 8
def xPlace (k t s : Int32) : Int32 := (k * 4 + t) * 8 + s
abbrev pFirst (k f g : Int32) : Prop := (k = 8 ∧ ¬ f < g) ∨ (k = 9 ∧ (g = 0 ∨ (¬ f = 0 ∧ ¬ g < f))) ∨ (k = 10 ∧ ¬ f = 0) ∨ (¬ k = 8 ∧ ¬ k = 9 ∧ ¬ k = 10 ∧ ¬ f < 2)
def xEntry (x : xSt) (p s : Int32) : Int32 := x.1 8 (tn (xPlace (x.1 1 (tn p)) (x.1 6 (tn p)) s))
def xOfEntry (g : Int32) : Int32 := if g = 5 then 0 else if g = 4 then 4 else 1
/-- what a policy of a kind without operands suggests for a sort of its set -/
def xInSet (x : xSt) (p v : Int32) : Int32 :=
  if x.1 0 (tn p) = 0 then 1 else if x.1 0 (tn p) = 1 then 4 else if x.1 0 (tn p) = 2 then 5
  else if x.1 0 (tn p) = 3 then (if x.1 2 (tn p) ≤ x.1 6 (tn p) then 4 else 1)
  else if x.1 0 (tn p) = 4 then p * 8 + 3
  else if x.1 0 (tn p) = 5 then (if x.1 7 (tn p) = 0 then p * 8 + 2 else 0)
  else if x.1 0 (tn p) = 7 then (if v < x.1 2 (tn p) ∨ x.1 3 (tn p) < v then 4 else 1)
  else 0
/-- what a policy suggests -/
def xSug (x : xSt) : Nat → Int32 → Int32 → Int32 → Int32
  | 0, _, _, _ => 0
  | d + 1, p, s, v =>
    if pPair (x.1 0 (tn p)) then
      (if ¬ (x.1 0 (tn p) = 8 ∨ x.1 0 (tn p) = 9) ∧ pFirst (x.1 0 (tn p)) (xKind (xSug x d (x.1 1 (tn p)) s v)) 0 then xSug x d (x.1 1 (tn p)) s v
       else if pFirst (x.1 0 (tn p)) (xKind (xSug x d (x.1 1 (tn p)) s v)) (xKind (xSug x d (x.1 2 (tn p)) s v)) then xSug x d (x.1 1 (tn p)) s v else xSug x d (x.1 2 (tn p)) s v)
    else if x.1 0 (tn p) = 12 then (if pIn (x.1 1 (tn p)) s then xSug x d (x.1 2 (tn p)) s v else 0)
    else if x.1 0 (tn p) = 13 then xSug x d (x.1 1 (tn p)) s v
    else if x.1 0 (tn p) = 14 then (if xKind (xSug x d (x.1 1 (tn p)) s v) = x.1 2 (tn p) then x.1 3 (tn p) else xSug x d (x.1 1 (tn p)) s v)
    else if x.1 0 (tn p) = 6 then xOfEntry (xEntry x p s)
    else if pIn (x.1 1 (tn p)) s then xInSet x p v else 0
/-- what is noted when it is asked by an acting -/
def xNot (x : xSt) : Nat → Int32 → Int32 → Int32 → List Int32
  | 0, _, _, _ => []
  | d + 1, p, s, v =>
    if pPair (x.1 0 (tn p)) then
      (if ¬ (x.1 0 (tn p) = 8 ∨ x.1 0 (tn p) = 9) ∧ pFirst (x.1 0 (tn p)) (xKind (xSug x d (x.1 1 (tn p)) s v)) 0 then xNot x d (x.1 1 (tn p)) s v
       else xNot x d (x.1 1 (tn p)) s v ++ xNot x d (x.1 2 (tn p)) s v)
    else if x.1 0 (tn p) = 12 then (if pIn (x.1 1 (tn p)) s then xNot x d (x.1 2 (tn p)) s v else [])
    else if x.1 0 (tn p) = 13 then xNot x d (x.1 1 (tn p)) s v ++ (if xKind (xSug x d (x.1 1 (tn p)) s v) = 0 then [] else [16 * xKind (xSug x d (x.1 1 (tn p)) s v) + s])
    else if x.1 0 (tn p) = 14 then xNot x d (x.1 1 (tn p)) s v
    else []
/-- Math.floorMod -/
def xFm (a b : Int32) : Int32 := if 0 ≤ a ^^^ b then a - a / b * b else if a - a / b * b = 0 then a - a / b * b else a - a / b * b + b
abbrev xF16 (a : Int32) : Int32 := xFm a 16
def xNote (x : xSt) (n : Int32) : xSt := xI (xA x 10 (upd (x.1 10) (tn (xF16 (x.2 1))) n)) 1 (x.2 1 + 1)
def xNotes (x : xSt) (l : List Int32) : xSt := l.foldl xNote x
def xUp (x : xSt) (p v : Int32) : xSt := xA x 6 (upd (x.1 6) (tn p) v)
/-- accepting -/
def xAcc : Nat → xSt → Int32 → Int32 → Int32 → xSt
  | 0, x, _, _, _ => x
  | d + 1, x, p, s, v =>
    if x.1 0 (tn p) = 3 then (if pIn (x.1 1 (tn p)) s then xUp x p (x.1 6 (tn p) + 1) else x)
    else if x.1 0 (tn p) = 6 then (if pBelow (xEntry x p s) 4 then xUp x p (xEntry x p s) else x)
    else if x.1 0 (tn p) = 8 then xAcc d (xAcc d x (x.1 1 (tn p)) s v) (x.1 2 (tn p)) s v
    else if x.1 0 (tn p) = 9 ∨ x.1 0 (tn p) = 10 ∨ x.1 0 (tn p) = 11 then
      (if pFirst (x.1 0 (tn p)) (xKind (xSug x d (x.1 1 (tn p)) s v)) (xKind (xSug x d (x.1 2 (tn p)) s v)) then xAcc d x (x.1 1 (tn p)) s v else xAcc d x (x.1 2 (tn p)) s v)
    else if x.1 0 (tn p) = 12 then (if pIn (x.1 1 (tn p)) s then xAcc d x (x.1 2 (tn p)) s v else x)
    else if x.1 0 (tn p) = 13 ∨ x.1 0 (tn p) = 14 then xAcc d x (x.1 1 (tn p)) s v
    else x
def xDo (x : xSt) (s v : Int32) : xSt := xI (xI (xA x 9 (upd (x.1 9) (tn s) (x.1 9 (tn s) + v))) 2 (x.2 2 + 1)) 7 (x.1 9 (tn s) + v)
end
section
/-! rows about the state's functions -/
def xSo (s : Int32) : Prop := ∃ j : Nat, j < 8 ∧ s = nI j
/-- what is asked of a policy so that it can be asked: by levels -/
def xG (x : xSt) : Nat → Int32 → Prop
  | 0, _ => False
  | d + 1, p => vp_in p 40 ∧ (∃ k : Nat, k < 15 ∧ x.1 0 (tn p) = nI k) ∧ (pA (x.1 0 (tn p)) → xG x d (x.1 1 (tn p))) ∧ (pB (x.1 0 (tn p)) → xG x d (x.1 2 (tn p))) ∧
    (x.1 0 (tn p) = 6 → (∃ a : Nat, a < 3 ∧ x.1 1 (tn p) = nI a) ∧ ∃ t : Nat, t < 4 ∧ x.1 6 (tn p) = nI t)
def xAsk (x : xSt) (d : Nat) (p s v n : Int32) : xSt := if n = 0 then x else xNotes x (xNot x d p s v)
theorem kc_nb {P : Prop} [Decidable P] {v : Int32} (h : v = xb P) : narrow .boolean (.int v) = .int v := by
  subst h
  unfold xb
  split <;> rfl
theorem xNotes_row (l : List Int32) : ∀ (x : xSt) (k : Nat), k ≠ 10 → (xNotes x l).1 k = x.1 k := by
  induction l with
  | nil => intro x k _; rfl
  | cons a l ih =>
    intro x k hk
    show (xNotes (xNote x a) l).1 k = _
    rw [ih _ _ hk]
    exact va_up_ne _ _ hk
theorem xAsk_row (x : xSt) (d : Nat) (p s v n : Int32) (k : Nat) (hk : k ≠ 10) : (xAsk x d p s v n).1 k = x.1 k := by
  unfold xAsk
  split
  · rfl
  · exact xNotes_row _ _ _ hk
theorem xSug_eq {x y : xSt} (h : ∀ k, k ≠ 10 → y.1 k = x.1 k) : ∀ (d : Nat) (p s v : Int32), xSug y d p s v = xSug x d p s v := by
  intro d
  induction d with
  | zero => intro p s v; rfl
  | succ d ih =>
    intro p s v
    simp only [xSug, xInSet, xEntry, h 0 (by decide), h 1 (by decide), h 2 (by decide), h 3 (by decide), h 6 (by decide), h 7 (by decide), h 8 (by decide), ih]
theorem xNot_eq {x y : xSt} (h : ∀ k, k ≠ 10 → y.1 k = x.1 k) : ∀ (d : Nat) (p s v : Int32), xNot y d p s v = xNot x d p s v := by
  intro d
  induction d with
  | zero => intro p s v; rfl
  | succ d ih =>
    intro p s v
    simp only [xNot, h 0 (by decide), h 1 (by decide), h 2 (by decide), ih, xSug_eq h]
theorem xG_eq {x y : xSt} (h : ∀ k, k ≠ 10 → y.1 k = x.1 k) : ∀ (d : Nat) (p : Int32), xG y d p ↔ xG x d p := by
  intro d
  induction d with
  | zero => intro p; exact Iff.rfl
  | succ d ih =>
    intro p
    simp only [xG, h 0 (by decide), h 1 (by decide), h 2 (by decide), h 6 (by decide), ih]
theorem xNotes_app (x : xSt) (l l2 : List Int32) : xNotes x (l ++ l2) = xNotes (xNotes x l) l2 := List.foldl_append
theorem xAsk_two (x : xSt) (d : Nat) (a b s v n : Int32) : xAsk (xAsk x d a s v n) d b s v n = if n = 0 then x else xNotes x (xNot x d a s v ++ xNot x d b s v) := by
  by_cases hn : n = 0
  · simp [xAsk, hn]
  · have hr := xAsk_row x d a s v n
    rw [xAsk, if_neg hn, if_neg hn, xNot_eq hr, xNotes_app, xAsk, if_neg hn]
def xStp (x : xSt) (p s : Int32) : xSt := if pBelow (xEntry x p s) 4 then xUp x p (xEntry x p s) else x
/-- but for the counts and states of policies: states of automata stay below 4 -/
def xS6 (x y : xSt) : Prop := (∀ k, k ≠ 6 → y.1 k = x.1 k) ∧ y.2 = x.2 ∧ ∀ i, x.1 0 i = 6 → y.1 6 i = x.1 6 i ∨ ∃ t : Nat, t < 4 ∧ y.1 6 i = nI t
theorem xS6.rf (x : xSt) : xS6 x x := ⟨fun _ _ => rfl, rfl, fun _ _ => Or.inl rfl⟩
theorem xS6.tr {x y z : xSt} (h : xS6 x y) (h2 : xS6 y z) : xS6 x z := by
  refine ⟨fun k hk => (h2.1 k hk).trans (h.1 k hk), h2.2.1.trans h.2.1, fun i hi => ?_⟩
  rcases h2.2.2 i (by rw [h.1 0 (by decide)]; exact hi) with q | q
  · rcases h.2.2 i hi with r | ⟨t, r1, r2⟩
    · exact Or.inl (q.trans r)
    · exact Or.inr ⟨t, r1, q.trans r2⟩
  · exact Or.inr q
theorem pBelow_nat {a : Int32} {n : Nat} {b : Int32} (h : pBelow a b) (hb : b = nI n) (hn : n < 2 ^ 31) : ∃ j : Nat, j < n ∧ a = nI j := by
  obtain ⟨j, h1, rfl⟩ := nI_of h.1
  refine ⟨j, ?_, rfl⟩
  rcases Nat.lt_or_ge j n with q | q
  · exact q
  · exact absurd (by rw [hb]; exact nI_le q h1) h.2
theorem xUp_6 {x : xSt} {p v : Int32} (h : x.1 0 (tn p) = 6 → ∃ t : Nat, t < 4 ∧ v = nI t) : xS6 x (xUp x p v) := by
  refine ⟨fun k hk => va_up_ne _ _ hk, rfl, fun i hi => ?_⟩
  show upd (x.1 6) (tn p) v i = _ ∨ _
  by_cases q : i = tn p
  · subst q
    obtain ⟨t, h1, h2⟩ := h hi
    exact Or.inr ⟨t, h1, by show upd (x.1 6) (tn p) v (tn p) = _; rw [pk_us, h2]⟩
  · exact Or.inl (pk_un q)
theorem xAcc_6 : ∀ (d : Nat) (x : xSt) (p s v : Int32), xS6 x (xAcc d x p s v) := by
  intro d
  induction d with
  | zero => intro x p s v; exact xS6.rf x
  | succ d ih =>
    intro x p s v
    unfold xAcc
    split
    · rename_i hk
      split
      · exact xUp_6 (fun z => by rw [hk] at z; exact absurd z (by decide))
      · exact xS6.rf x
    · split
      · split
        · rename_i hb
          exact xUp_6 (fun _ => pBelow_nat hb rfl (by decide))
        · exact xS6.rf x
      · split
        · exact (ih _ _ _ _).tr (ih _ _ _ _)
        · split
          · split
            · exact ih _ _ _ _
            · exact ih _ _ _ _
          · split
            · split
              · exact ih _ _ _ _
              · exact xS6.rf x
            · split
              · exact ih _ _ _ _
              · exact xS6.rf x
theorem xG_6 {x y : xSt} (h : xS6 x y) : ∀ (d : Nat) (p : Int32), xG x d p → xG y d p := by
  intro d
  induction d with
  | zero => intro p q; exact q
  | succ d ih =>
    intro p q
    obtain ⟨q1, q2, q3, q4, q5⟩ := q
    have h0 := h.1 0 (by decide)
    have h1 := h.1 1 (by decide)
    have h2 := h.1 2 (by decide)
    refine ⟨q1, by rw [h0]; exact q2, fun z => ?_, fun z => ?_, fun z => ?_⟩
    · rw [h1]; rw [h0] at z; exact ih _ (q3 z)
    · rw [h2]; rw [h0] at z; exact ih _ (q4 z)
    · rw [h1]; rw [h0] at z
      obtain ⟨r1, r2⟩ := q5 z
      refine ⟨r1, ?_⟩
      rcases h.2.2 _ z with r | r
      · rw [r]; exact r2
      · exact r
theorem xF16_in (a : Int32) : vp_in (xF16 a) 16 := by
  have hr := rem_toInt a 16
  have h16 : (16 : Int32).toInt = 16 := by decide
  rw [h16] at hr
  have hb := tmod_bounds (a := a.toInt) (M := 16) (by decide)
  rw [vp_in_iff]
  unfold xF16 xFm
  have hx : (0 ≤ a ^^^ 16) ↔ 0 ≤ a := by sorry
  split
  · rename_i h0
    have ha : 0 ≤ a.toInt := by have := hx.mp h0; simpa [Int32.le_iff_toInt_le] using this
    rw [hr]
    exact ⟨Int.tmod_nonneg _ ha, hb.2⟩
  · split
    · rename_i h0
      rw [h0]; decide
    · rename_i h0 h1
      sorry
end
section
/-! what a suggestion is, kind by kind -/
theorem xb_t {P : Prop} [Decidable P] {v : Int32} (h : v = xb P) (hv : ¬ v = 0) : P := by
  by_cases q : P
  · exact q
  · exact absurd (h.trans (if_neg q)) hv
theorem xb_f {P : Prop} [Decidable P] {v : Int32} (h : v = xb P) (hv : v = 0) : ¬ P := fun q => by
  rw [h, xb, if_pos q] at hv
  exact absurd hv (by decide)
theorem xPair_skip {x : xSt} {d : Nat} {p s v n k a f : Int32} (hk : k = x.1 0 (tn p)) (ha : a = x.1 1 (tn p)) (hf : f = xSug x d a s v) (hpr : pPair (x.1 0 (tn p))) (h8 : ¬ k = 8) (h9 : ¬ k = 9) (ht : pFirst k (xKind f) 0) : f = xSug x (d + 1) p s v ∧ xAsk x d a s v n = xAsk x (d + 1) p s v n := by
  subst hk ha hf
  have hc : ¬ (x.1 0 (tn p) = 8 ∨ x.1 0 (tn p) = 9) ∧ pFirst (x.1 0 (tn p)) (xKind (xSug x d (x.1 1 (tn p)) s v)) 0 := ⟨fun z => z.elim h8 h9, ht⟩
  refine ⟨?_, ?_⟩
  · rw [xSug, if_pos hpr, if_pos hc]
  · rw [xAsk, xAsk, xNot, if_pos hpr, if_pos hc]
theorem xPair_two {x : xSt} {d : Nat} {p s v n k a b f g : Int32} (hk : k = x.1 0 (tn p)) (ha : a = x.1 1 (tn p)) (hb : b = x.1 2 (tn p)) (hf : f = xSug x d a s v) (hg : g = xSug (xAsk x d a s v n) d b s v) (hpr : pPair (x.1 0 (tn p))) (h : k = 8 ∨ k = 9 ∨ ¬ pFirst k (xKind f) 0) :
    (if pFirst k (xKind f) (xKind g) then f else g) = xSug x (d + 1) p s v ∧ xAsk (xAsk x d a s v n) d b s v n = xAsk x (d + 1) p s v n := by
  have hr : ∀ k, k ≠ 10 → (xAsk x d a s v n).1 k = x.1 k := fun k hk => xAsk_row _ _ _ _ _ _ _ hk
  rw [xSug_eq hr] at hg
  subst hk ha hb hf hg
  have hc : ¬ (¬ (x.1 0 (tn p) = 8 ∨ x.1 0 (tn p) = 9) ∧ pFirst (x.1 0 (tn p)) (xKind (xSug x d (x.1 1 (tn p)) s v)) 0) := fun z => by
    rcases h with q | q | q
    · exact z.1 (Or.inl q)
    · exact z.1 (Or.inr q)
    · exact q z.2
  refine ⟨?_, ?_⟩
  · rw [xSug, if_pos hpr, if_neg hc]
  · rw [xAsk_two]
    conv => rhs; rw [xAsk, xNot, if_pos hpr, if_neg hc]
theorem xSug_12 {x : xSt} {d : Nat} {p s v : Int32} (hk : x.1 0 (tn p) = 12) : xSug x (d + 1) p s v = if pIn (x.1 1 (tn p)) s then xSug x d (x.1 2 (tn p)) s v else 0 := by
  simp [xSug, pPair, hk]
theorem xNot_12 {x : xSt} {d : Nat} {p s v : Int32} (hk : x.1 0 (tn p) = 12) : xNot x (d + 1) p s v = if pIn (x.1 1 (tn p)) s then xNot x d (x.1 2 (tn p)) s v else [] := by
  simp [xNot, pPair, hk]
theorem xAsk_12 {x : xSt} {d : Nat} {p s v n : Int32} (hk : x.1 0 (tn p) = 12) : xAsk x (d + 1) p s v n = if pIn (x.1 1 (tn p)) s then xAsk x d (x.1 2 (tn p)) s v n else x := by
  rw [xAsk, xNot_12 hk]
  split
  · split
    · rw [xAsk, if_pos (by assumption)]
    · rfl
  · split
    · rw [xAsk, if_neg (by assumption)]
    · rfl
theorem xSug_13 {x : xSt} {d : Nat} {p s v : Int32} (hk : x.1 0 (tn p) = 13) : xSug x (d + 1) p s v = xSug x d (x.1 1 (tn p)) s v := by
  simp [xSug, pPair, hk]
theorem xNot_13 {x : xSt} {d : Nat} {p s v : Int32} (hk : x.1 0 (tn p) = 13) : xNot x (d + 1) p s v = xNot x d (x.1 1 (tn p)) s v ++ (if xKind (xSug x d (x.1 1 (tn p)) s v) = 0 then [] else [16 * xKind (xSug x d (x.1 1 (tn p)) s v) + s]) := by
  simp [xNot, pPair, hk]
theorem xAsk_13 {x : xSt} {d : Nat} {p s v n : Int32} (hk : x.1 0 (tn p) = 13) : xAsk x (d + 1) p s v n = if n = 0 ∨ xKind (xSug x d (x.1 1 (tn p)) s v) = 0 then xAsk x d (x.1 1 (tn p)) s v n else xNote (xAsk x d (x.1 1 (tn p)) s v n) (16 * xKind (xSug x d (x.1 1 (tn p)) s v) + s) := by
  rw [xAsk, xNot_13 hk]
  by_cases hn : n = 0
  · rw [if_pos hn, if_pos (Or.inl hn), xAsk, if_pos hn]
  · rw [if_neg hn]
    by_cases hz : xKind (xSug x d (x.1 1 (tn p)) s v) = 0
    · rw [if_pos (Or.inr hz), if_pos hz, List.append_nil, xAsk, if_neg hn]
    · have hz' : ¬ (n = 0 ∨ xKind (xSug x d (x.1 1 (tn p)) s v) = 0) := fun z => z.elim hn hz
      rw [if_neg hz', if_neg hz, xNotes_app, xAsk, if_neg hn]
      rfl
theorem xSug_14 {x : xSt} {d : Nat} {p s v : Int32} (hk : x.1 0 (tn p) = 14) : xSug x (d + 1) p s v = if xKind (xSug x d (x.1 1 (tn p)) s v) = x.1 2 (tn p) then x.1 3 (tn p) else xSug x d (x.1 1 (tn p)) s v := by
  simp [xSug, pPair, hk]
theorem xNot_14 {x : xSt} {d : Nat} {p s v : Int32} (hk : x.1 0 (tn p) = 14) : xNot x (d + 1) p s v = xNot x d (x.1 1 (tn p)) s v := by
  simp [xNot, pPair, hk]
theorem xAsk_14 {x : xSt} {d : Nat} {p s v n : Int32} (hk : x.1 0 (tn p) = 14) : xAsk x (d + 1) p s v n = xAsk x d (x.1 1 (tn p)) s v n := by
  rw [xAsk, xAsk, xNot_14 hk]
theorem xSug_6 {x : xSt} {d : Nat} {p s v : Int32} (hk : x.1 0 (tn p) = 6) : xSug x (d + 1) p s v = xOfEntry (xEntry x p s) := by
  simp [xSug, pPair, hk]
theorem xNot_6 {x : xSt} {d : Nat} {p s v : Int32} (hk : x.1 0 (tn p) = 6) : xNot x (d + 1) p s v = [] := by
  simp [xNot, pPair, hk]
theorem xAsk_6 {x : xSt} {d : Nat} {p s v n : Int32} (hk : x.1 0 (tn p) = 6) : xAsk x (d + 1) p s v n = x := by
  rw [xAsk, xNot_6 hk]
  split <;> rfl
abbrev pPlain (k : Int32) : Prop := k = 0 ∨ k = 1 ∨ k = 2 ∨ k = 3 ∨ k = 4 ∨ k = 5 ∨ k = 7
theorem xSug_0 {x : xSt} {d : Nat} {p s v : Int32} (hk : pPlain (x.1 0 (tn p))) : xSug x (d + 1) p s v = if pIn (x.1 1 (tn p)) s then xInSet x p v else 0 := by
  rcases hk with hk | hk | hk | hk | hk | hk | hk <;> simp [xSug, pPair, hk]
theorem xNot_0 {x : xSt} {d : Nat} {p s v : Int32} (hk : pPlain (x.1 0 (tn p))) : xNot x (d + 1) p s v = [] := by
  rcases hk with hk | hk | hk | hk | hk | hk | hk <;> simp [xNot, pPair, hk]
theorem xAsk_0 {x : xSt} {d : Nat} {p s v n : Int32} (hk : pPlain (x.1 0 (tn p))) : xAsk x (d + 1) p s v n = x := by
  rw [xAsk, xNot_0 hk]
  split <;> rfl
theorem xPlace_nI (a t j : Nat) : xPlace (nI a) (nI t) (nI j) = nI ((a * 4 + t) * 8 + j) := by
  show (nI a * nI 4 + nI t) * nI 8 + nI j = _
  rw [pk_mul, nI_add, pk_mul, nI_add]
theorem xG_place {x : xSt} {p s : Int32} (h : (∃ a : Nat, a < 3 ∧ x.1 1 (tn p) = nI a) ∧ ∃ t : Nat, t < 4 ∧ x.1 6 (tn p) = nI t) (hs : xSo s) : vp_in (xPlace (x.1 1 (tn p)) (x.1 6 (tn p)) s) 96 := by
  obtain ⟨⟨a, h1, h2⟩, t, h3, h4⟩ := h
  obtain ⟨j, h5, h6⟩ := hs
  rw [h2, h4, h6, xPlace_nI]
  exact vp_in_nI (by omega) (by decide)
theorem xAcc_3 {x : xSt} {d : Nat} {p s v : Int32} (hk : x.1 0 (tn p) = 3) : xAcc (d + 1) x p s v = if pIn (x.1 1 (tn p)) s then xUp x p (x.1 6 (tn p) + 1) else x := by
  simp [xAcc, hk]
theorem xAcc_k6 {x : xSt} {d : Nat} {p s v : Int32} (hk : x.1 0 (tn p) = 6) : xAcc (d + 1) x p s v = xStp x p s := by
  simp [xAcc, hk, xStp]
theorem xAcc_8 {x : xSt} {d : Nat} {p s v : Int32} (hk : x.1 0 (tn p) = 8) : xAcc (d + 1) x p s v = xAcc d (xAcc d x (x.1 1 (tn p)) s v) (x.1 2 (tn p)) s v := by
  simp [xAcc, hk]
theorem xAcc_9 {x : xSt} {d : Nat} {p s v : Int32} (hk : x.1 0 (tn p) = 9 ∨ x.1 0 (tn p) = 10 ∨ x.1 0 (tn p) = 11) : xAcc (d + 1) x p s v = if pFirst (x.1 0 (tn p)) (xKind (xSug x d (x.1 1 (tn p)) s v)) (xKind (xSug x d (x.1 2 (tn p)) s v)) then xAcc d x (x.1 1 (tn p)) s v else xAcc d x (x.1 2 (tn p)) s v := by
  rw [xAcc, if_neg (fun z => by rcases hk with q | q | q <;> rw [q] at z <;> exact absurd z (by decide)), if_neg (fun z => by rcases hk with q | q | q <;> rw [q] at z <;> exact absurd z (by decide)), if_neg (fun z => by rcases hk with q | q | q <;> rw [q] at z <;> exact absurd z (by decide)), if_pos hk]
theorem xAcc_12 {x : xSt} {d : Nat} {p s v : Int32} (hk : x.1 0 (tn p) = 12) : xAcc (d + 1) x p s v = if pIn (x.1 1 (tn p)) s then xAcc d x (x.1 2 (tn p)) s v else x := by
  simp [xAcc, hk]
theorem xAcc_13 {x : xSt} {d : Nat} {p s v : Int32} (hk : x.1 0 (tn p) = 13 ∨ x.1 0 (tn p) = 14) : xAcc (d + 1) x p s v = xAcc d x (x.1 1 (tn p)) s v := by
  rcases hk with hk | hk <;> simp [xAcc, hk]
theorem xAcc_0 {x : xSt} {d : Nat} {p s v : Int32} (hk : x.1 0 (tn p) = 0 ∨ x.1 0 (tn p) = 1 ∨ x.1 0 (tn p) = 2 ∨ x.1 0 (tn p) = 4 ∨ x.1 0 (tn p) = 5 ∨ x.1 0 (tn p) = 7) : xAcc (d + 1) x p s v = x := by
  rcases hk with hk | hk | hk | hk | hk | hk <;> simp [xAcc, hk]
theorem xDo_w {x : xSt} {s v : Int32} {z1 z2 z3 : Int32} (h1 : z1 = x.1 9 (tn s) + v) (h2 : z2 = x.2 2 + 1) (h3 : z3 = (xA x 9 (upd (x.1 9) (tn s) z1)).1 9 (tn s)) : xI (xI (xA x 9 (upd (x.1 9) (tn s) z1)) 2 z2) 7 z3 = xDo x s v := by
  have h4 : z3 = z1 := h3.trans (by show upd (x.1 9) (tn s) z1 (tn s) = z1; exact pk_us)
  rw [h4, h2, h1]
  rfl
end
section
/-! acting -/
def xZ (f : Nat → Int32) : Nat → Int32 := fun j => if j < 40 then 0 else f j
def xInst (x : xSt) : Prop := x.2 5 = -1 ∨ xG x 7 (x.2 5)
/-- a policy that inserts has a sort; one that turns gives no kind with a source -/
def xV (x : xSt) : Prop := ∀ i : Nat, i < 40 → (x.1 0 i = 5 → xSo (x.1 2 i)) ∧ (x.1 0 i = 14 → x.1 3 i = 0 ∨ x.1 3 i = 1 ∨ x.1 3 i = 4 ∨ x.1 3 i = 5)
def xNow (x : xSt) (s v : Int32) : Int32 := if x.2 5 = -1 then 0 else xSug x 7 (x.2 5) s v
def xFol (x : xSt) (g s v : Int32) : Int32 × xSt :=
  if xKind g = 3 then (0, xI (xI x 7 (x.1 2 (tn (xSrc g)))) 3 (x.2 3 + 1))
  else if xKind g = 4 then (1, x) else if xKind g = 5 then (2, x)
  else (0, xDo (xAcc 7 x (x.2 5) s v) s v)
abbrev xS1 (x : xSt) (s v : Int32) : xSt := xAsk x 7 (x.2 5) s v 1
def xSp (x : xSt) (g : Int32) : xSt := xA x 7 (upd (x.1 7) (tn (xSrc g)) 1)
def xLoop (rc : Option (xSt → Int32 → Int32 → Int32 × xSt)) : Nat → xSt → Int32 → Int32 → Int32 × xSt
  | 0, x, _, _ => (3, x)
  | n + 1, x, s, v =>
    if ¬ xKind (xSug x 7 (x.2 5) s v) = 2 then xFol (xS1 x s v) (xSug x 7 (x.2 5) s v) s v
    else match rc with
      | none => (3, xS1 x s v)
      | some f =>
        if ¬ (f (xSp (xS1 x s v) (xSug x 7 (x.2 5) s v)) ((xSp (xS1 x s v) (xSug x 7 (x.2 5) s v)).1 2 (tn (xSrc (xSug x 7 (x.2 5) s v)))) ((xSp (xS1 x s v) (xSug x 7 (x.2 5) s v)).1 3 (tn (xSrc (xSug x 7 (x.2 5) s v))))).1 = 0
        then f (xSp (xS1 x s v) (xSug x 7 (x.2 5) s v)) ((xSp (xS1 x s v) (xSug x 7 (x.2 5) s v)).1 2 (tn (xSrc (xSug x 7 (x.2 5) s v)))) ((xSp (xS1 x s v) (xSug x 7 (x.2 5) s v)).1 3 (tn (xSrc (xSug x 7 (x.2 5) s v))))
        else xLoop rc n (f (xSp (xS1 x s v) (xSug x 7 (x.2 5) s v)) ((xSp (xS1 x s v) (xSug x 7 (x.2 5) s v)).1 2 (tn (xSrc (xSug x 7 (x.2 5) s v)))) ((xSp (xS1 x s v) (xSug x 7 (x.2 5) s v)).1 3 (tn (xSrc (xSug x 7 (x.2 5) s v))))).2 s v
def xAct : Nat → xSt → Int32 → Int32 → Int32 × xSt
  | 0, x, s, v => if x.2 5 = -1 then (0, xDo x s v) else xLoop none 41 x s v
  | n + 1, x, s, v => if x.2 5 = -1 then (0, xDo x s v) else xLoop (some (xAct n)) 41 x s v
/-- what an acting leaves as it was -/
def xKeep (x y : xSt) : Prop := (∀ k, k ≠ 6 → k ≠ 7 → k ≠ 9 → k ≠ 10 → y.1 k = x.1 k) ∧ y.2 5 = x.2 5 ∧ ∀ i, x.1 0 i = 6 → y.1 6 i = x.1 6 i ∨ ∃ t : Nat, t < 4 ∧ y.1 6 i = nI t
theorem xKeep.rf (x : xSt) : xKeep x x := ⟨fun _ _ _ _ _ => rfl, rfl, fun _ _ => Or.inl rfl⟩
theorem xKeep.tr {x y z : xSt} (h : xKeep x y) (h2 : xKeep y z) : xKeep x z := by
  refine ⟨fun k a b c d => (h2.1 k a b c d).trans (h.1 k a b c d), h2.2.1.trans h.2.1, fun i hi => ?_⟩
  rcases h2.2.2 i (by rw [h.1 0 (by decide) (by decide) (by decide) (by decide)]; exact hi) with q | q
  · rcases h.2.2 i hi with r | ⟨t, r1, r2⟩
    · exact Or.inl (q.trans r)
    · exact Or.inr ⟨t, r1, q.trans r2⟩
  · exact Or.inr q
theorem xKeep.of6 {x y : xSt} (h : xS6 x y) : xKeep x y := ⟨fun k a _ _ _ => h.1 k a, by rw [h.2.1], h.2.2⟩
theorem xKeep_g {x y : xSt} (h : xKeep x y) : ∀ (d : Nat) (p : Int32), xG x d p → xG y d p := by
  intro d
  induction d with
  | zero => intro p q; exact q
  | succ d ih =>
    intro p q
    obtain ⟨q1, q2, q3, q4, q5⟩ := q
    have h0 := h.1 0 (by decide) (by decide) (by decide) (by decide)
    have h1 := h.1 1 (by decide) (by decide) (by decide) (by decide)
    have h2 := h.1 2 (by decide) (by decide) (by decide) (by decide)
    refine ⟨q1, by rw [h0]; exact q2, fun z => ?_, fun z => ?_, fun z => ?_⟩
    · rw [h1]; rw [h0] at z; exact ih _ (q3 z)
    · rw [h2]; rw [h0] at z; exact ih _ (q4 z)
    · rw [h1]; rw [h0] at z
      obtain ⟨r1, r2⟩ := q5 z
      refine ⟨r1, ?_⟩
      rcases h.2.2 _ z with r | r
      · rw [r]; exact r2
      · exact r
theorem xKeep_i {x y : xSt} (h : xKeep x y) (hi : xInst x) : xInst y := by
  rcases hi with q | q
  · exact Or.inl (h.2.1.trans q)
  · exact Or.inr (by rw [h.2.1]; exact xKeep_g h _ _ q)
theorem xKeep_v {x y : xSt} (h : xKeep x y) (hv : xV x) : xV y := fun i hi => by
  rw [h.1 0 (by decide) (by decide) (by decide) (by decide), h.1 2 (by decide) (by decide) (by decide) (by decide), h.1 3 (by decide) (by decide) (by decide) (by decide)]
  exact hv i hi
theorem xNotes_int (l : List Int32) : ∀ (x : xSt) (k : Nat), k ≠ 1 → (xNotes x l).2 k = x.2 k := by
  induction l with
  | nil => intro x k _; rfl
  | cons a l ih =>
    intro x k hk
    show (xNotes (xNote x a) l).2 k = _
    rw [ih _ _ hk]
    exact va_up_ne _ _ hk
theorem xAsk_int (x : xSt) (d : Nat) (p s v n : Int32) (k : Nat) (hk : k ≠ 1) : (xAsk x d p s v n).2 k = x.2 k := by
  unfold xAsk
  split
  · rfl
  · exact xNotes_int _ _ _ hk
theorem xKeep_ask (x : xSt) (d : Nat) (p s v n : Int32) : xKeep x (xAsk x d p s v n) :=
  ⟨fun k _ _ _ h => xAsk_row _ _ _ _ _ _ _ h, xAsk_int _ _ _ _ _ _ _ (by decide), fun i _ => Or.inl (by rw [xAsk_row _ _ _ _ _ _ _ (by decide)])⟩
theorem xKeep_sp (x : xSt) (g : Int32) : xKeep x (xSp x g) := ⟨fun k _ h _ _ => va_up_ne _ _ h, rfl, fun i _ => Or.inl rfl⟩
theorem xKeep_do (x : xSt) (s v : Int32) : xKeep x (xDo x s v) := ⟨fun k _ _ h _ => va_up_ne _ _ h, rfl, fun i _ => Or.inl rfl⟩
theorem xKeep_fol (x : xSt) (g s v : Int32) : xKeep x (xFol x g s v).2 := by
  unfold xFol
  split
  · exact ⟨fun _ _ _ _ _ => rfl, rfl, fun _ _ => Or.inl rfl⟩
  · split
    · exact xKeep.rf x
    · split
      · exact xKeep.rf x
      · exact (xKeep.of6 (xAcc_6 _ _ _ _ _)).tr (xKeep_do _ _ _)
theorem xKeep_loop {rc : Option (xSt → Int32 → Int32 → Int32 × xSt)} (hr : ∀ f, rc = some f → ∀ x s v, xKeep x (f x s v).2) : ∀ (n : Nat) (x : xSt) (s v : Int32), xKeep x (xLoop rc n x s v).2 := by
  intro n
  induction n with
  | zero => intro x s v; exact xKeep.rf x
  | succ n ih =>
    intro x s v
    unfold xLoop
    split
    · exact (xKeep_ask _ _ _ _ _ _).tr (xKeep_fol _ _ _ _)
    · split
      · exact xKeep_ask _ _ _ _ _ _
      · rename_i f
        have h1 := ((xKeep_ask x 7 (x.2 5) s v 1).tr (xKeep_sp _ (xSug x 7 (x.2 5) s v))).tr (hr f rfl _ ((xSp (xS1 x s v) (xSug x 7 (x.2 5) s v)).1 2 (tn (xSrc (xSug x 7 (x.2 5) s v)))) ((xSp (xS1 x s v) (xSug x 7 (x.2 5) s v)).1 3 (tn (xSrc (xSug x 7 (x.2 5) s v)))))
        split
        · exact h1
        · exact h1.tr (ih _ _ _)
theorem xKeep_act : ∀ (n : Nat) (x : xSt) (s v : Int32), xKeep x (xAct n x s v).2 := by
  intro n
  induction n with
  | zero =>
    intro x s v
    unfold xAct
    split
    · exact xKeep_do _ _ _
    · exact xKeep_loop (fun f h => by cases h) _ _ _ _
  | succ n ih =>
    intro x s v
    unfold xAct
    split
    · exact xKeep_do _ _ _
    · exact xKeep_loop (fun f h => by cases h; exact ih) _ _ _ _
/-! kinds and sources of suggestions -/
theorem xKind_nI {n : Nat} (h : n < 2 ^ 31) : xKind (nI n) = nI (n % 8) := by
  show nI n - nI n / nI 8 * nI 8 = _
  exact pk_rem h (by decide) (by decide)
theorem xSrc_nI {n : Nat} (h : n < 2 ^ 31) : xSrc (nI n) = nI (n / 8) := by
  show nI n / nI 8 = _
  exact pk_div h (by decide) (by decide)
theorem xMk_nI (i k : Nat) : nI i * 8 + nI k = nI (i * 8 + k) := by
  show nI i * nI 8 + nI k = _
  rw [pk_mul, nI_add]
/-- what a suggestion is: a bare kind, or an insert or a replace with its source -/
def xIs (x : xSt) (g : Int32) : Prop := (g = 0 ∨ g = 1 ∨ g = 4 ∨ g = 5) ∨ ∃ i : Nat, i < 40 ∧ ((g = nI (i * 8 + 2) ∧ x.1 0 i = 5 ∧ x.1 7 i = 0) ∨ (g = nI (i * 8 + 3) ∧ x.1 0 i = 4))
theorem xInSet_is {x : xSt} {p v : Int32} (hp : vp_in p 40) : xIs x (xInSet x p v) := by
  obtain ⟨i, hi, rfl⟩ := vp_in_of hp (by decide)
  have hc : tn (nI i) = i := nI_clamp (by omega)
  unfold xInSet
  rw [hc]
  split
  · exact Or.inl (Or.inr (Or.inl rfl))
  split
  · exact Or.inl (Or.inr (Or.inr (Or.inl rfl)))
  split
  · exact Or.inl (Or.inr (Or.inr (Or.inr rfl)))
  split
  · split
    · exact Or.inl (Or.inr (Or.inr (Or.inl rfl)))
    · exact Or.inl (Or.inr (Or.inl rfl))
  split
  · rename_i h
    exact Or.inr ⟨i, hi, Or.inr ⟨xMk_nI i 3, h⟩⟩
  split
  · rename_i h
    split
    · rename_i h2
      exact Or.inr ⟨i, hi, Or.inl ⟨xMk_nI i 2, h, h2⟩⟩
    · exact Or.inl (Or.inl rfl)
  split
  · split
    · exact Or.inl (Or.inr (Or.inr (Or.inl rfl)))
    · exact Or.inl (Or.inr (Or.inl rfl))
  · exact Or.inl (Or.inl rfl)
theorem xSug_is {x : xSt} (hv : xV x) (s v : Int32) : ∀ (d : Nat) (p : Int32), xG x d p → xIs x (xSug x d p s v) := by
  intro d
  induction d with
  | zero => intro p h; exact h.elim
  | succ d ih =>
    intro p h
    obtain ⟨hp, hk, hA, hB, h6⟩ := h
    unfold xSug
    split
    · rename_i hpr
      split
      · exact ih _ (hA (Or.inl hpr))
      · split
        · exact ih _ (hA (Or.inl hpr))
        · exact ih _ (hB (Or.inl hpr))
    · split
      · rename_i h12
        split
        · exact ih _ (hB (Or.inr h12))
        · exact Or.inl (Or.inl rfl)
      · split
        · rename_i h13
          exact ih _ (hA (Or.inr (Or.inl h13)))
        · split
          · rename_i h14
            split
            · obtain ⟨i, hi, rfl⟩ := vp_in_of hp (by decide)
              have hc : tn (nI i) = i := nI_clamp (by omega)
              rw [hc] at h14 ⊢
              exact Or.inl ((hv i hi).2 h14)
            · exact ih _ (hA (Or.inr (Or.inr h14)))
          · split
            · unfold xOfEntry
              split
              · exact Or.inl (Or.inl rfl)
              · split
                · exact Or.inl (Or.inr (Or.inr (Or.inl rfl)))
                · exact Or.inl (Or.inr (Or.inl rfl))
            · split
              · exact xInSet_is hp
              · exact Or.inl (Or.inl rfl)
theorem xIs_src {x : xSt} {g : Int32} (h : xIs x g) (hk : xKind g = 2 ∨ xKind g = 3) : ∃ i : Nat, i < 40 ∧ xSrc g = nI i ∧ ((xKind g = 2 ∧ g = nI (i * 8 + 2) ∧ x.1 0 i = 5 ∧ x.1 7 i = 0) ∨ (xKind g = 3 ∧ g = nI (i * 8 + 3) ∧ x.1 0 i = 4)) := by
  rcases h with h | ⟨i, hi, h⟩
  · exfalso
    rcases h with rfl | rfl | rfl | rfl <;> rcases hk with q | q <;> revert q <;> decide
  · refine ⟨i, hi, ?_, ?_⟩
    · rcases h with ⟨rfl, -⟩ | ⟨rfl, -⟩ <;> rw [xSrc_nI (by omega)] <;> congr 1 <;> omega
    · rcases h with ⟨rfl, h1, h2⟩ | ⟨rfl, h1⟩
      · refine Or.inl ⟨?_, rfl, h1, h2⟩
        rw [xKind_nI (by omega), show (i * 8 + 2) % 8 = 2 by omega]; rfl
      · refine Or.inr ⟨?_, rfl, h1⟩
        rw [xKind_nI (by omega), show (i * 8 + 3) % 8 = 3 by omega]; rfl
theorem xSo_in {s : Int32} (h : xSo s) : vp_in s 8 := by
  obtain ⟨j, h1, rfl⟩ := h
  exact vp_in_nI h1 (by decide)
theorem tn_nI {n : Nat} (h : n < 2 ^ 31) : tn (nI n) = n := nI_clamp h
theorem xFill {f g : Nat → Int32} {k : Nat} {i z : Int32} (hi : i = nI k) (hk : k < 2 ^ 31) (h0 : ∀ j, j < k → f j = z) (h1 : ∀ j, k ≤ j → f j = g j) : (∀ j, j < k + 1 → upd f (tn i) z j = z) ∧ (∀ j, k + 1 ≤ j → upd f (tn i) z j = g j) := by
  rw [hi, tn_nI hk]
  refine ⟨fun j hj => ?_, fun j hj => ?_⟩
  · by_cases q : j = k
    · rw [q]; exact pk_us
    · rw [pk_un q]; exact h0 j (by omega)
  · rw [pk_un (by omega)]; exact h1 j (by omega)
theorem xLoop_fol {rc : Option (xSt → Int32 → Int32 → Int32 × xSt)} {n : Nat} {x : xSt} {s v p g : Int32} (hp : p = x.2 5) (hg : g = xSug x 7 p s v) (hk : ¬ xKind g = 2) : xLoop rc (n + 1) x s v = xFol (xAsk x 7 p s v 1) g s v := by
  subst hp hg
  conv => lhs; unfold xLoop
  exact if_pos hk
theorem xLoop_none {n : Nat} {x : xSt} {s v p g : Int32} (hp : p = x.2 5) (hg : g = xSug x 7 p s v) (hk : xKind g = 2) : xLoop none (n + 1) x s v = (3, xAsk x 7 p s v 1) := by
  subst hp hg
  conv => lhs; unfold xLoop
  exact if_neg (fun z => z hk)
theorem xLoop_some {f : xSt → Int32 → Int32 → Int32 × xSt} {n : Nat} {x X : xSt} {s v p g i b c : Int32} (hp : p = x.2 5) (hg : g = xSug x 7 p s v) (hk : xKind g = 2) (hi : i = xSrc g) (hX : X = xA (xAsk x 7 p s v 1) 7 (upd ((xAsk x 7 p s v 1).1 7) (tn i) 1)) (hb : b = X.1 2 (tn i)) (hc : c = X.1 3 (tn i)) :
    xLoop (some f) (n + 1) x s v = if ¬ (f X b c).1 = 0 then f X b c else xLoop (some f) n (f X b c).2 s v := by
  subst hp hg hi hX hb hc
  conv => lhs; unfold xLoop
  exact if_neg (fun z => z hk)
end
section
/-! making policies -/
theorem xb_iff {P R : Prop} [Decidable P] [Decidable R] (h : P ↔ R) : xb P = xb R := by
  by_cases q : P
  · rw [xb, xb, if_pos q, if_pos (h.mp q)]
  · rw [xb, xb, if_neg q, if_neg (fun z => q (h.mpr z))]
theorem xb_1 {P : Prop} [Decidable P] (h : P) : 1 = xb P := (if_pos h).symm
theorem xb_0 {P : Prop} [Decidable P] (h : ¬ P) : 0 = xb P := (if_neg h).symm
abbrev pP0 (k : Int32) : Prop := k = 0 ∨ k = 1 ∨ k = 2 ∨ k = 4 ∨ k = 7
abbrev pSaid (x : xSt) (k a b c : Int32) : Prop :=
  (pP0 k ∧ pBelow a 256) ∨ (k = 3 ∧ pBelow a 256 ∧ pBelow b 100) ∨ (k = 5 ∧ pBelow a 256 ∧ pBelow b 8) ∨ (k = 6 ∧ pBelow a 3) ∨ (pPair k ∧ pBelow a (x.2 0) ∧ pBelow b (x.2 0)) ∨ (k = 12 ∧ pBelow a 256 ∧ pBelow b (x.2 0)) ∨ (k = 13 ∧ pBelow a (x.2 0)) ∨ (k = 14 ∧ pBelow a (x.2 0) ∧ pTurn b ∧ (c = 0 ∨ pTurn c))
theorem pSaid_0 {x : xSt} {k a b c : Int32} (h : pP0 k) : pSaid x k a b c ↔ pBelow a 256 := by
  rcases h with rfl | rfl | rfl | rfl | rfl <;> simp [pSaid, pP0, pPair]
theorem pSaid_3 {x : xSt} {k a b c : Int32} (h : k = 3) : pSaid x k a b c ↔ pBelow a 256 ∧ pBelow b 100 := by
  subst h; simp [pSaid, pP0, pPair]
theorem pSaid_5 {x : xSt} {k a b c : Int32} (h : k = 5) : pSaid x k a b c ↔ pBelow a 256 ∧ pBelow b 8 := by
  subst h; simp [pSaid, pP0, pPair]
theorem pSaid_6 {x : xSt} {k a b c : Int32} (h : k = 6) : pSaid x k a b c ↔ pBelow a 3 := by
  subst h; simp [pSaid, pP0, pPair]
theorem pSaid_8 {x : xSt} {k a b c : Int32} (h : pPair k) : pSaid x k a b c ↔ pBelow a (x.2 0) ∧ pBelow b (x.2 0) := by
  rcases h with rfl | rfl | rfl | rfl <;> simp [pSaid, pP0, pPair]
theorem pSaid_12 {x : xSt} {k a b c : Int32} (h : k = 12) : pSaid x k a b c ↔ pBelow a 256 ∧ pBelow b (x.2 0) := by
  subst h; simp [pSaid, pP0, pPair]
theorem pSaid_13 {x : xSt} {k a b c : Int32} (h : k = 13) : pSaid x k a b c ↔ pBelow a (x.2 0) := by
  subst h; simp [pSaid, pP0, pPair]
theorem pSaid_14 {x : xSt} {k a b c : Int32} (h : k = 14) : pSaid x k a b c ↔ pBelow a (x.2 0) ∧ pTurn b ∧ (c = 0 ∨ pTurn c) := by
  subst h; simp [pSaid, pP0, pPair]
abbrev pTaken (x : xSt) (k a b : Int32) : Prop := (pA k ∧ ¬ x.1 5 (tn a) = 0) ∨ (pB k ∧ ¬ x.1 5 (tn b) = 0) ∨ (pPair k ∧ a = b)
def xLa (x : xSt) (k a : Int32) : Int32 := if pA k then x.1 4 (tn a) else 0
def xLb (x : xSt) (k b : Int32) : Int32 := if pB k then x.1 4 (tn b) else 0
def xLev (x : xSt) (k a b : Int32) : Int32 := (if xLa x k a < xLb x k b then xLb x k b else xLa x k a) + 1
def xU (x : xSt) (P : Prop) [Decidable P] (a : Int32) : xSt := if P then xA x 5 (upd (x.1 5) (tn a) 1) else x
def xPut (x : xSt) (k i : Nat) (v : Int32) : xSt := xA x k (upd (x.1 k) i v)
def xNew (x : xSt) (k a b c v : Int32) : xSt := xPut (xPut (xPut (xPut (xPut x 0 (tn (x.2 0)) k) 1 (tn (x.2 0)) a) 2 (tn (x.2 0)) b) 3 (tn (x.2 0)) c) 4 (tn (x.2 0)) v
def xAdd (x : xSt) (k a b c v : Int32) : xSt := xI (xU (xU (xNew x k a b c v) (pA k) a) (pB k) b) 0 (x.2 0 + 1)
/-- there are at most forty -/
def xN (x : xSt) : Prop := ∃ N : Nat, N ≤ 40 ∧ x.2 0 = nI N
theorem xN_in {x : xSt} (h : xN x) {a : Int32} (ha : pBelow a (x.2 0)) : vp_in a 40 := by
  obtain ⟨N, h1, h2⟩ := h
  obtain ⟨j, h3, rfl⟩ := pBelow_nat ha h2 (by omega)
  exact vp_in_nI (by omega) (by decide)
def xState (x : xSt) (p : Int32) : Int32 := if pBelow p (x.2 0) then (if x.1 0 (tn p) = 3 ∨ x.1 0 (tn p) = 6 then x.1 6 (tn p) else -1) else -1
def xNoted (x : xSt) (k : Int32) : Int32 := if pBelow k 16 ∧ k < x.2 1 then x.1 10 (tn (xF16 (x.2 1 - 1 - k))) else -1
def xCount (x : xSt) (w : Int32) : Int32 :=
  if w = 0 then x.2 0 else if w = 1 then x.2 1 else if w = 2 then x.2 2 else if w = 3 then x.2 3 else if w = 4 then x.2 4 else if w = 5 then (if x.2 6 = 0 then 0 else 1) else if w = 6 then x.2 5 else -1
end
section
theorem wX_r0 (cI cZ : ClassId) (q : Nat → Nat) (x : xSt) (f : Nat → Int32) : (wX cI cZ q x).set 1 (q 1, .inl (cI, 40, .inl f)) = wX cI cZ q (xA x 0 f) := rfl
theorem wX_r1 (cI cZ : ClassId) (q : Nat → Nat) (x : xSt) (f : Nat → Int32) : (wX cI cZ q x).set 2 (q 2, .inl (cI, 40, .inl f)) = wX cI cZ q (xA x 1 f) := rfl
theorem wX_r2 (cI cZ : ClassId) (q : Nat → Nat) (x : xSt) (f : Nat → Int32) : (wX cI cZ q x).set 3 (q 3, .inl (cI, 40, .inl f)) = wX cI cZ q (xA x 2 f) := rfl
theorem wX_r3 (cI cZ : ClassId) (q : Nat → Nat) (x : xSt) (f : Nat → Int32) : (wX cI cZ q x).set 4 (q 4, .inl (cI, 40, .inl f)) = wX cI cZ q (xA x 3 f) := rfl
theorem wX_r4 (cI cZ : ClassId) (q : Nat → Nat) (x : xSt) (f : Nat → Int32) : (wX cI cZ q x).set 5 (q 5, .inl (cI, 40, .inl f)) = wX cI cZ q (xA x 4 f) := rfl
theorem wX_r5 (cI cZ : ClassId) (q : Nat → Nat) (x : xSt) (f : Nat → Int32) : (wX cI cZ q x).set 6 (q 6, .inl (cZ, 40, .inl f)) = wX cI cZ q (xA x 5 f) := rfl
theorem wX_r6 (cI cZ : ClassId) (q : Nat → Nat) (x : xSt) (f : Nat → Int32) : (wX cI cZ q x).set 7 (q 7, .inl (cI, 40, .inl f)) = wX cI cZ q (xA x 6 f) := rfl
theorem wX_r7 (cI cZ : ClassId) (q : Nat → Nat) (x : xSt) (f : Nat → Int32) : (wX cI cZ q x).set 8 (q 8, .inl (cZ, 40, .inl f)) = wX cI cZ q (xA x 7 f) := rfl
theorem wX_r8 (cI cZ : ClassId) (q : Nat → Nat) (x : xSt) (f : Nat → Int32) : (wX cI cZ q x).set 9 (q 9, .inl (cI, 96, .inl f)) = wX cI cZ q (xA x 8 f) := rfl
theorem wX_r9 (cI cZ : ClassId) (q : Nat → Nat) (x : xSt) (f : Nat → Int32) : (wX cI cZ q x).set 10 (q 10, .inl (cI, 8, .inl f)) = wX cI cZ q (xA x 9 f) := rfl
theorem wX_r10 (cI cZ : ClassId) (q : Nat → Nat) (x : xSt) (f : Nat → Int32) : (wX cI cZ q x).set 11 (q 11, .inl (cI, 16, .inl f)) = wX cI cZ q (xA x 10 f) := rfl
end
section
set_option maxHeartbeats 4000000 in
set_option maxRecDepth 100000 in
theorem c_isBelow (l : Launch) (D : va_G) (cI cZ cJ : ClassId) (a b : Int32) : kc_M l yX0_isBelow cX0_isBelow 2 (some .boolean) 0 0 0 0 [.int a, .int b] D vwCl (tyL cI cZ cJ) [] (some (.int (xb (pBelow a b)))) [] := by
  refine kc_start RX0 (by decide +kernel) rfl (Nat.le_of_ble_eq_true rfl) ?_
  intro zp ze zs zm zb zt zc h hr hlk hnm
  refine kr_iconst (v := 0) h dX0_isBelow_0 (by decide) ?_
  refine kr_iload_n h dX0_isBelow_1 rfl 0 rfl ?_
  refine kr_icmp_gt h 14 dX0_isBelow_2 (by decide) (fun c2 => ?_) (fun c2 => ?_)
  · refine kr_iconst (v := 0) h dX0_isBelow_14 (by decide) ?_
    exact kr_zret h hr hlk dX0_isBelow_15 (rfl) (by clear h hr hlk hnm; simp_all) (rfl)
  · refine kr_iload_n h dX0_isBelow_5 rfl 0 rfl ?_
    refine kr_iload_n h dX0_isBelow_6 rfl 1 rfl ?_
    refine kr_icmp_ge h 14 dX0_isBelow_7 (by decide) (fun c7 => ?_) (fun c7 => ?_)
    · refine kr_iconst (v := 0) h dX0_isBelow_14 (by decide) ?_
      exact kr_zret h hr hlk dX0_isBelow_15 (rfl) (by clear h hr hlk hnm; simp_all) (rfl)
    · refine kr_iconst (v := 1) h dX0_isBelow_10 (by decide) ?_
      refine kr_goto h 15 dX0_isBelow_11 (by decide) ?_
      exact kr_zret h hr hlk dX0_isBelow_15 (rfl) (by clear h hr hlk hnm; simp_all) (rfl)
set_option maxHeartbeats 4000000 in
set_option maxRecDepth 100000 in
theorem c_isSort (l : Launch) (D : va_G) (cI cZ cJ : ClassId) (a : Int32) : kc_M l yX0_isSort cX0_isSort 1 (some .boolean) 1 21 0 0 [.int a] D vwCl (tyL cI cZ cJ) [] (some (.int (xb (pBelow a 8)))) [] := by
  refine kc_start RX0 (by decide +kernel) rfl (Nat.le_of_ble_eq_true rfl) ?_
  intro zp ze zs zm zb zt zc h hr hlk hnm
  refine kr_iload_n h dX0_isSort_0 rfl 0 rfl ?_
  refine kr_bipush (v := 8) h dX0_isSort_1 (by decide) ?_
  refine kr_i0 h (kc_rS h (c_isBelow l D cI cZ cJ a 8) mlX0_52 ysX0_isBelow dX0_isSort_3 rfl rfl ⟨Nat.le_of_ble_eq_true rfl, Nat.le_of_ble_eq_true rfl⟩ ⟨Nat.le_of_ble_eq_true rfl, Nat.le_of_ble_eq_true rfl⟩ (Nat.le_of_ble_eq_true rfl) [] rfl rfl) (fun v3 e3 => ?_)
  exact kr_zret h hr hlk dX0_isSort_6 (kc_nb e3) (e3) (rfl)
set_option maxHeartbeats 4000000 in
set_option maxRecDepth 100000 in
theorem c_isSet (l : Launch) (D : va_G) (cI cZ cJ : ClassId) (a : Int32) : kc_M l yX0_isSet cX0_isSet 1 (some .boolean) 1 21 0 0 [.int a] D vwCl (tyL cI cZ cJ) [] (some (.int (xb (pBelow a 256)))) [] := by
  refine kc_start RX0 (by decide +kernel) rfl (Nat.le_of_ble_eq_true rfl) ?_
  intro zp ze zs zm zb zt zc h hr hlk hnm
  refine kr_iload_n h dX0_isSet_0 rfl 0 rfl ?_
  refine kr_sipush (v := 256) h dX0_isSet_1 (by decide) ?_
  refine kr_i0 h (kc_rS h (c_isBelow l D cI cZ cJ a 256) mlX0_52 ysX0_isBelow dX0_isSet_4 rfl rfl ⟨Nat.le_of_ble_eq_true rfl, Nat.le_of_ble_eq_true rfl⟩ ⟨Nat.le_of_ble_eq_true rfl, Nat.le_of_ble_eq_true rfl⟩ (Nat.le_of_ble_eq_true rfl) [] rfl rfl) (fun v4 e4 => ?_)
  exact kr_zret h hr hlk dX0_isSet_7 (kc_nb e4) (e4) (rfl)
set_option maxHeartbeats 4000000 in
set_option maxRecDepth 100000 in
theorem c_isTable (l : Launch) (D : va_G) (cI cZ cJ : ClassId) (a : Int32) : kc_M l yX0_isTable cX0_isTable 1 (some .boolean) 1 21 0 0 [.int a] D vwCl (tyL cI cZ cJ) [] (some (.int (xb (pBelow a 3)))) [] := by
  refine kc_start RX0 (by decide +kernel) rfl (Nat.le_of_ble_eq_true rfl) ?_
  intro zp ze zs zm zb zt zc h hr hlk hnm
  refine kr_iload_n h dX0_isTable_0 rfl 0 rfl ?_
  refine kr_iconst (v := 3) h dX0_isTable_1 (by decide) ?_
  refine kr_i0 h (kc_rS h (c_isBelow l D cI cZ cJ a 3) mlX0_52 ysX0_isBelow dX0_isTable_2 rfl rfl ⟨Nat.le_of_ble_eq_true rfl, Nat.le_of_ble_eq_true rfl⟩ ⟨Nat.le_of_ble_eq_true rfl, Nat.le_of_ble_eq_true rfl⟩ (Nat.le_of_ble_eq_true rfl) [] rfl rfl) (fun v2 e2 => ?_)
  exact kr_zret h hr hlk dX0_isTable_5 (kc_nb e2) (e2) (rfl)
set_option maxHeartbeats 4000000 in
set_option maxRecDepth 100000 in
theorem c_isPolicy (l : Launch) (D : va_G) (cI cZ cJ : ClassId) (q : Nat → Nat) (x : xSt) (a : Int32) : kc_M l yX0_isPolicy cX0_isPolicy 2 (some .boolean) 1 21 0 0 [.ref (q 0), .int a] D vwCl (tyL cI cZ cJ) (wX cI cZ q x) (some (.int (xb (pBelow a (x.2 0))))) (wX cI cZ q (x)) := by
  refine kc_start RX0 (by decide +kernel) rfl (Nat.le_of_ble_eq_true rfl) ?_
  intro zp ze zs zm zb zt zc h hr hlk hnm
  refine kr_iload_n h dX0_isPolicy_0 rfl 1 rfl ?_
  refine kr_aload_n h dX0_isPolicy_1 rfl 0 rfl ?_
  refine kr_get h FX0ok 0 11 dX0_isPolicy_2 flX0_93 rfl rfl (by decide) rfl rfl ?_
  refine kr_top h (fun v2 e2 => ?_)
  refine kr_i0 h (kc_rS h (c_isBelow l D cI cZ cJ a v2) mlX0_52 ysX0_isBelow dX0_isPolicy_5 rfl rfl ⟨Nat.le_of_ble_eq_true rfl, Nat.le_of_ble_eq_true rfl⟩ ⟨Nat.le_of_ble_eq_true rfl, Nat.le_of_ble_eq_true rfl⟩ (Nat.le_of_ble_eq_true rfl) [] rfl rfl) (fun v5 e5 => ?_)
  exact kr_zret h hr hlk dX0_isPolicy_8 (kc_nb e5) (by rw [e5, e2]) (rfl)
set_option maxHeartbeats 4000000 in
set_option maxRecDepth 100000 in
theorem c_inSet (l : Launch) (D : va_G) (cI cZ cJ : ClassId) (a s : Int32) : kc_M l yX0_inSet cX0_inSet 2 (some .boolean) 0 0 0 0 [.int a, .int s] D vwCl (tyL cI cZ cJ) [] (some (.int (xb (pIn a s)))) [] := by
  refine kc_start RX0 (by decide +kernel) rfl (Nat.le_of_ble_eq_true rfl) ?_
  intro zp ze zs zm zb zt zc h hr hlk hnm
  refine kr_iload_n h dX0_inSet_0 rfl 0 rfl ?_
  refine kr_iload_n h dX0_inSet_1 rfl 1 rfl ?_
  refine kr_ishr h dX0_inSet_2 (fun v2 e2 => ?_)
  refine kr_iconst (v := 1) h dX0_inSet_3 (by decide) ?_
  refine kr_iand h dX0_inSet_4 (fun v4 e4 => ?_)
  refine kr_iconst (v := 1) h dX0_inSet_5 (by decide) ?_
  refine kr_icmp_ne h 13 dX0_inSet_6 (by decide) (fun c6 => ?_) (fun c6 => ?_)
  · refine kr_iconst (v := 0) h dX0_inSet_13 (by decide) ?_
    exact kr_zret h hr hlk dX0_inSet_14 (rfl) (by rw [e4, e2] at c6; first | exact (if_pos c6).symm | exact (if_neg c6).symm) (rfl)
  · refine kr_iconst (v := 1) h dX0_inSet_9 (by decide) ?_
    refine kr_goto h 14 dX0_inSet_10 (by decide) ?_
    exact kr_zret h hr hlk dX0_inSet_14 (rfl) (by rw [e4, e2] at c6; first | exact (if_pos c6).symm | exact (if_neg c6).symm) (rfl)
set_option maxHeartbeats 4000000 in
set_option maxRecDepth 100000 in
theorem c_entryPlace (l : Launch) (D : va_G) (cI cZ cJ : ClassId) (k t s : Int32) : kc_M l yX0_entryPlace cX0_entryPlace 3 (some .int) 0 0 0 0 [.int k, .int t, .int s] D vwCl (tyL cI cZ cJ) [] (some (.int (xPlace k t s))) [] := by
  refine kc_start RX0 (by decide +kernel) rfl (Nat.le_of_ble_eq_true rfl) ?_
  intro zp ze zs zm zb zt zc h hr hlk hnm
  refine kr_iload_n h dX0_entryPlace_0 rfl 0 rfl ?_
  refine kr_iconst (v := 4) h dX0_entryPlace_1 (by decide) ?_
  refine kr_imul h dX0_entryPlace_2 (fun v2 e2 => ?_)
  refine kr_iload_n h dX0_entryPlace_3 rfl 1 rfl ?_
  refine kr_iadd h dX0_entryPlace_4 (fun v4 e4 => ?_)
  refine kr_bipush (v := 8) h dX0_entryPlace_5 (by decide) ?_
  refine kr_imul h dX0_entryPlace_7 (fun v7 e7 => ?_)
  refine kr_iload_n h dX0_entryPlace_8 rfl 2 rfl ?_
  refine kr_iadd h dX0_entryPlace_9 (fun v9 e9 => ?_)
  exact kr_iret h hr hlk dX0_entryPlace_10 (by simp_all [xPlace]) (rfl)
set_option maxHeartbeats 4000000 in
set_option maxRecDepth 100000 in
theorem c_isPair (l : Launch) (D : va_G) (cI cZ cJ : ClassId) (k : Int32) : kc_M l yX0_isPair cX0_isPair 1 (some .boolean) 0 0 0 0 [.int k] D vwCl (tyL cI cZ cJ) [] (some (.int (xb (pPair k)))) [] := by
  refine kc_start RX0 (by decide +kernel) rfl (Nat.le_of_ble_eq_true rfl) ?_
  intro zp ze zs zm zb zt zc h hr hlk hnm
  refine kr_iload_n h dX0_isPair_0 rfl 0 rfl ?_
  refine kr_bipush (v := 8) h dX0_isPair_1 (by decide) ?_
  refine kr_icmp_eq h 24 dX0_isPair_3 (by decide) (fun c3 => ?_) (fun c3 => ?_)
  · refine kr_iconst (v := 1) h dX0_isPair_24 (by decide) ?_
    refine kr_goto h 29 dX0_isPair_25 (by decide) ?_
    exact kr_zret h hr hlk dX0_isPair_29 (rfl) (by clear h hr hlk hnm; simp_all) (rfl)
  · refine kr_iload_n h dX0_isPair_6 rfl 0 rfl ?_
    refine kr_bipush (v := 9) h dX0_isPair_7 (by decide) ?_
    refine kr_icmp_eq h 24 dX0_isPair_9 (by decide) (fun c9 => ?_) (fun c9 => ?_)
    · refine kr_iconst (v := 1) h dX0_isPair_24 (by decide) ?_
      refine kr_goto h 29 dX0_isPair_25 (by decide) ?_
      exact kr_zret h hr hlk dX0_isPair_29 (rfl) (by clear h hr hlk hnm; simp_all) (rfl)
    · refine kr_iload_n h dX0_isPair_12 rfl 0 rfl ?_
      refine kr_bipush (v := 10) h dX0_isPair_13 (by decide) ?_
      refine kr_icmp_eq h 24 dX0_isPair_15 (by decide) (fun c15 => ?_) (fun c15 => ?_)
      · refine kr_iconst (v := 1) h dX0_isPair_24 (by decide) ?_
        refine kr_goto h 29 dX0_isPair_25 (by decide) ?_
        exact kr_zret h hr hlk dX0_isPair_29 (rfl) (by clear h hr hlk hnm; simp_all) (rfl)
      · refine kr_iload_n h dX0_isPair_18 rfl 0 rfl ?_
        refine kr_bipush (v := 11) h dX0_isPair_19 (by decide) ?_
        refine kr_icmp_ne h 28 dX0_isPair_21 (by decide) (fun c21 => ?_) (fun c21 => ?_)
        · refine kr_iconst (v := 0) h dX0_isPair_28 (by decide) ?_
          exact kr_zret h hr hlk dX0_isPair_29 (rfl) (by clear h hr hlk hnm; simp_all) (rfl)
        · refine kr_iconst (v := 1) h dX0_isPair_24 (by decide) ?_
          refine kr_goto h 29 dX0_isPair_25 (by decide) ?_
          exact kr_zret h hr hlk dX0_isPair_29 (rfl) (by clear h hr hlk hnm; simp_all) (rfl)
set_option maxHeartbeats 4000000 in
set_option maxRecDepth 100000 in
theorem c_hasPolicyA (l : Launch) (D : va_G) (cI cZ cJ : ClassId) (k : Int32) : kc_M l yX0_hasPolicyA cX0_hasPolicyA 1 (some .boolean) 1 20 0 0 [.int k] D vwCl (tyL cI cZ cJ) [] (some (.int (xb (pA k)))) [] := by
  refine kc_start RX0 (by decide +kernel) rfl (Nat.le_of_ble_eq_true rfl) ?_
  intro zp ze zs zm zb zt zc h hr hlk hnm
  refine kr_iload_n h dX0_hasPolicyA_0 rfl 0 rfl ?_
  refine kr_i0 h (kc_rS h (c_isPair l D cI cZ cJ k) mlX0_162 ysX0_isPair dX0_hasPolicyA_1 rfl rfl ⟨Nat.le_of_ble_eq_true rfl, Nat.le_of_ble_eq_true rfl⟩ ⟨Nat.le_of_ble_eq_true rfl, Nat.le_of_ble_eq_true rfl⟩ (Nat.le_of_ble_eq_true rfl) [] rfl rfl) (fun v1 e1 => ?_)
  refine kr_if_ne h 19 dX0_hasPolicyA_4 (by decide) (fun c4 => ?_) (fun c4 => ?_)
  · refine kr_iconst (v := 1) h dX0_hasPolicyA_19 (by decide) ?_
    refine kr_goto h 24 dX0_hasPolicyA_20 (by decide) ?_
    exact kr_zret h hr hlk dX0_hasPolicyA_24 (rfl) (by clear h hr hlk hnm; simp_all) (rfl)
  · refine kr_iload_n h dX0_hasPolicyA_7 rfl 0 rfl ?_
    refine kr_bipush (v := 13) h dX0_hasPolicyA_8 (by decide) ?_
    refine kr_icmp_eq h 19 dX0_hasPolicyA_10 (by decide) (fun c10 => ?_) (fun c10 => ?_)
    · refine kr_iconst (v := 1) h dX0_hasPolicyA_19 (by decide) ?_
      refine kr_goto h 24 dX0_hasPolicyA_20 (by decide) ?_
      exact kr_zret h hr hlk dX0_hasPolicyA_24 (rfl) (by clear h hr hlk hnm; simp_all) (rfl)
    · refine kr_iload_n h dX0_hasPolicyA_13 rfl 0 rfl ?_
      refine kr_bipush (v := 14) h dX0_hasPolicyA_14 (by decide) ?_
      refine kr_icmp_ne h 23 dX0_hasPolicyA_16 (by decide) (fun c16 => ?_) (fun c16 => ?_)
      · refine kr_iconst (v := 0) h dX0_hasPolicyA_23 (by decide) ?_
        exact kr_zret h hr hlk dX0_hasPolicyA_24 (rfl) (by clear h hr hlk hnm; simp_all) (rfl)
      · refine kr_iconst (v := 1) h dX0_hasPolicyA_19 (by decide) ?_
        refine kr_goto h 24 dX0_hasPolicyA_20 (by decide) ?_
        exact kr_zret h hr hlk dX0_hasPolicyA_24 (rfl) (by clear h hr hlk hnm; simp_all) (rfl)
set_option maxHeartbeats 4000000 in
set_option maxRecDepth 100000 in
theorem c_hasPolicyB (l : Launch) (D : va_G) (cI cZ cJ : ClassId) (k : Int32) : kc_M l yX0_hasPolicyB cX0_hasPolicyB 1 (some .boolean) 1 20 0 0 [.int k] D vwCl (tyL cI cZ cJ) [] (some (.int (xb (pB k)))) [] := by
  refine kc_start RX0 (by decide +kernel) rfl (Nat.le_of_ble_eq_true rfl) ?_
  intro zp ze zs zm zb zt zc h hr hlk hnm
  refine kr_iload_n h dX0_hasPolicyB_0 rfl 0 rfl ?_
  refine kr_i0 h (kc_rS h (c_isPair l D cI cZ cJ k) mlX0_162 ysX0_isPair dX0_hasPolicyB_1 rfl rfl ⟨Nat.le_of_ble_eq_true rfl, Nat.le_of_ble_eq_true rfl⟩ ⟨Nat.le_of_ble_eq_true rfl, Nat.le_of_ble_eq_true rfl⟩ (Nat.le_of_ble_eq_true rfl) [] rfl rfl) (fun v1 e1 => ?_)
  refine kr_if_ne h 13 dX0_hasPolicyB_4 (by decide) (fun c4 => ?_) (fun c4 => ?_)
  · refine kr_iconst (v := 1) h dX0_hasPolicyB_13 (by decide) ?_
    refine kr_goto h 18 dX0_hasPolicyB_14 (by decide) ?_
    exact kr_zret h hr hlk dX0_hasPolicyB_18 (rfl) (by clear h hr hlk hnm; simp_all) (rfl)
  · refine kr_iload_n h dX0_hasPolicyB_7 rfl 0 rfl ?_
    refine kr_bipush (v := 12) h dX0_hasPolicyB_8 (by decide) ?_
    refine kr_icmp_ne h 17 dX0_hasPolicyB_10 (by decide) (fun c10 => ?_) (fun c10 => ?_)
    · refine kr_iconst (v := 0) h dX0_hasPolicyB_17 (by decide) ?_
      exact kr_zret h hr hlk dX0_hasPolicyB_18 (rfl) (by clear h hr hlk hnm; simp_all) (rfl)
    · refine kr_iconst (v := 1) h dX0_hasPolicyB_13 (by decide) ?_
      refine kr_goto h 18 dX0_hasPolicyB_14 (by decide) ?_
      exact kr_zret h hr hlk dX0_hasPolicyB_18 (rfl) (by clear h hr hlk hnm; simp_all) (rfl)
set_option maxHeartbeats 4000000 in
set_option maxRecDepth 100000 in
theorem c_canBeTurned (l : Launch) (D : va_G) (cI cZ cJ : ClassId) (k : Int32) : kc_M l yX0_canBeTurned cX0_canBeTurned 1 (some .boolean) 0 0 0 0 [.int k] D vwCl (tyL cI cZ cJ) [] (some (.int (xb (pTurn k)))) [] := by
  refine kc_start RX0 (by decide +kernel) rfl (Nat.le_of_ble_eq_true rfl) ?_
  intro zp ze zs zm zb zt zc h hr hlk hnm
  refine kr_iload_n h dX0_canBeTurned_0 rfl 0 rfl ?_
  refine kr_iconst (v := 1) h dX0_canBeTurned_1 (by decide) ?_
  refine kr_icmp_eq h 15 dX0_canBeTurned_2 (by decide) (fun c2 => ?_) (fun c2 => ?_)
  · refine kr_iconst (v := 1) h dX0_canBeTurned_15 (by decide) ?_
    refine kr_goto h 20 dX0_canBeTurned_16 (by decide) ?_
    exact kr_zret h hr hlk dX0_canBeTurned_20 (rfl) (by clear h hr hlk hnm; simp_all) (rfl)
  · refine kr_iload_n h dX0_canBeTurned_5 rfl 0 rfl ?_
    refine kr_iconst (v := 4) h dX0_canBeTurned_6 (by decide) ?_
    refine kr_icmp_eq h 15 dX0_canBeTurned_7 (by decide) (fun c7 => ?_) (fun c7 => ?_)
    · refine kr_iconst (v := 1) h dX0_canBeTurned_15 (by decide) ?_
      refine kr_goto h 20 dX0_canBeTurned_16 (by decide) ?_
      exact kr_zret h hr hlk dX0_canBeTurned_20 (rfl) (by clear h hr hlk hnm; simp_all) (rfl)
    · refine kr_iload_n h dX0_canBeTurned_10 rfl 0 rfl ?_
      refine kr_iconst (v := 5) h dX0_canBeTurned_11 (by decide) ?_
      refine kr_icmp_ne h 19 dX0_canBeTurned_12 (by decide) (fun c12 => ?_) (fun c12 => ?_)
      · refine kr_iconst (v := 0) h dX0_canBeTurned_19 (by decide) ?_
        exact kr_zret h hr hlk dX0_canBeTurned_20 (rfl) (by clear h hr hlk hnm; simp_all) (rfl)
      · refine kr_iconst (v := 1) h dX0_canBeTurned_15 (by decide) ?_
        refine kr_goto h 20 dX0_canBeTurned_16 (by decide) ?_
        exact kr_zret h hr hlk dX0_canBeTurned_20 (rfl) (by clear h hr hlk hnm; simp_all) (rfl)
set_option maxHeartbeats 4000000 in
set_option maxRecDepth 100000 in
theorem c_suggestionFrom (l : Launch) (D : va_G) (cI cZ cJ : ClassId) (k p : Int32) : kc_M l yX0_suggestionFrom cX0_suggestionFrom 2 (some .int) 0 0 0 0 [.int k, .int p] D vwCl (tyL cI cZ cJ) [] (some (.int (p * 8 + k))) [] := by
  refine kc_start RX0 (by decide +kernel) rfl (Nat.le_of_ble_eq_true rfl) ?_
  intro zp ze zs zm zb zt zc h hr hlk hnm
  refine kr_iload_n h dX0_suggestionFrom_0 rfl 1 rfl ?_
  refine kr_bipush (v := 8) h dX0_suggestionFrom_1 (by decide) ?_
  refine kr_imul h dX0_suggestionFrom_3 (fun v3 e3 => ?_)
  refine kr_iload_n h dX0_suggestionFrom_4 rfl 0 rfl ?_
  refine kr_iadd h dX0_suggestionFrom_5 (fun v5 e5 => ?_)
  exact kr_iret h hr hlk dX0_suggestionFrom_6 (by clear h hr hlk hnm; simp_all) (rfl)
set_option maxHeartbeats 4000000 in
set_option maxRecDepth 100000 in
theorem c_kindOf (l : Launch) (D : va_G) (cI cZ cJ : ClassId) (g : Int32) : kc_M l yX0_kindOf cX0_kindOf 1 (some .int) 0 0 0 0 [.int g] D vwCl (tyL cI cZ cJ) [] (some (.int (xKind g))) [] := by
  refine kc_start RX0 (by decide +kernel) rfl (Nat.le_of_ble_eq_true rfl) ?_
  intro zp ze zs zm zb zt zc h hr hlk hnm
  refine kr_iload_n h dX0_kindOf_0 rfl 0 rfl ?_
  refine kr_bipush (v := 8) h dX0_kindOf_1 (by decide) ?_
  refine kr_irem h dX0_kindOf_3 (by decide) (fun v3 e3 => ?_)
  exact kr_iret h hr hlk dX0_kindOf_4 (by simp_all [xKind]) (rfl)
set_option maxHeartbeats 4000000 in
set_option maxRecDepth 100000 in
theorem c_sourceOf (l : Launch) (D : va_G) (cI cZ cJ : ClassId) (g : Int32) : kc_M l yX0_sourceOf cX0_sourceOf 1 (some .int) 0 0 0 0 [.int g] D vwCl (tyL cI cZ cJ) [] (some (.int (xSrc g))) [] := by
  refine kc_start RX0 (by decide +kernel) rfl (Nat.le_of_ble_eq_true rfl) ?_
  intro zp ze zs zm zb zt zc h hr hlk hnm
  refine kr_iload_n h dX0_sourceOf_0 rfl 0 rfl ?_
  refine kr_bipush (v := 8) h dX0_sourceOf_1 (by decide) ?_
  refine kr_idiv h dX0_sourceOf_3 (by decide) (fun v3 e3 => ?_)
  exact kr_iret h hr hlk dX0_sourceOf_4 (by simp_all [xSrc]) (rfl)
set_option maxHeartbeats 4000000 in
set_option maxRecDepth 100000 in
theorem c_okOnlyIf (l : Launch) (D : va_G) (cI cZ cJ : ClassId) (f : Int32) : kc_M l yX0_okOnlyIf cX0_okOnlyIf 1 (some .int) 0 0 0 0 [.int f] D vwCl (tyL cI cZ cJ) [] (some (.int (if f = 0 then 4 else 1))) [] := by
  refine kc_start RX0 (by decide +kernel) rfl (Nat.le_of_ble_eq_true rfl) ?_
  intro zp ze zs zm zb zt zc h hr hlk hnm
  refine kr_iload_n h dX0_okOnlyIf_0 rfl 0 rfl ?_
  refine kr_if_eq h 8 dX0_okOnlyIf_1 (by decide) (fun c1 => ?_) (fun c1 => ?_)
  · refine kr_iconst (v := 4) h dX0_okOnlyIf_8 (by decide) ?_
    exact kr_iret h hr hlk dX0_okOnlyIf_9 (by clear h hr hlk hnm; simp_all) (rfl)
  · refine kr_iconst (v := 1) h dX0_okOnlyIf_4 (by decide) ?_
    refine kr_goto h 9 dX0_okOnlyIf_5 (by decide) ?_
    exact kr_iret h hr hlk dX0_okOnlyIf_9 (by clear h hr hlk hnm; simp_all) (rfl)
set_option maxHeartbeats 4000000 in
set_option maxRecDepth 100000 in
theorem c_takesFirst (l : Launch) (D : va_G) (cI cZ cJ : ClassId) (k f g : Int32) : kc_M l yX0_takesFirst cX0_takesFirst 3 (some .boolean) 0 0 0 0 [.int k, .int f, .int g] D vwCl (tyL cI cZ cJ) [] (some (.int (xb (pFirst k f g)))) [] := by
  refine kc_start RX0 (by decide +kernel) rfl (Nat.le_of_ble_eq_true rfl) ?_
  intro zp ze zs zm zb zt zc h hr hlk hnm
  refine kr_iload_n h dX0_takesFirst_0 rfl 0 rfl ?_
  rcases kc_sw k 8 11 with hj1 | ⟨j1, hl1, hj1, ej1⟩
  · refine kr_tabOut h 68 dX0_takesFirst_1 (by omega) (by decide) ?_
    have n1_8 : ¬ k = 8 := fun z => by rw [z] at hj1; revert hj1; decide +kernel
    have n1_9 : ¬ k = 9 := fun z => by rw [z] at hj1; revert hj1; decide +kernel
    have n1_10 : ¬ k = 10 := fun z => by rw [z] at hj1; revert hj1; decide +kernel
    refine kr_iload_n h dX0_takesFirst_68 rfl 1 rfl ?_
    refine kr_iconst (v := 2) h dX0_takesFirst_69 (by decide) ?_
    refine kr_icmp_lt h 77 dX0_takesFirst_70 (by decide) (fun c70 => ?_) (fun c70 => ?_)
    · refine kr_iconst (v := 0) h dX0_takesFirst_77 (by decide) ?_
      exact kr_zret h hr hlk dX0_takesFirst_78 (rfl) (by clear h hr hlk hnm; simp_all) (rfl)
    · refine kr_iconst (v := 1) h dX0_takesFirst_73 (by decide) ?_
      refine kr_goto h 78 dX0_takesFirst_74 (by decide) ?_
      exact kr_zret h hr hlk dX0_takesFirst_78 (rfl) (by clear h hr hlk hnm; simp_all) (rfl)
  · have hg1 : (j1 = 8) ∨ (j1 = 9) ∨ (j1 = 10) := by omega
    rcases hg1 with hg1 | hg1 | hg1
    · refine kr_tab h 28 dX0_takesFirst_1 (by rw [ej1, hg1]; decide +kernel) ?_
      have q1 : k = 8 := by rw [ej1, hg1]; decide +kernel
      clear hg1 ej1 hj1
      refine kr_iload_n h dX0_takesFirst_28 rfl 1 rfl ?_
      refine kr_iload_n h dX0_takesFirst_29 rfl 2 rfl ?_
      refine kr_icmp_lt h 37 dX0_takesFirst_30 (by decide) (fun c30 => ?_) (fun c30 => ?_)
      · refine kr_iconst (v := 0) h dX0_takesFirst_37 (by decide) ?_
        exact kr_zret h hr hlk dX0_takesFirst_38 (rfl) (by clear h hr hlk hnm; simp_all) (rfl)
      · refine kr_iconst (v := 1) h dX0_takesFirst_33 (by decide) ?_
        refine kr_goto h 38 dX0_takesFirst_34 (by decide) ?_
        exact kr_zret h hr hlk dX0_takesFirst_38 (rfl) (by clear h hr hlk hnm; simp_all) (rfl)
    · refine kr_tab h 39 dX0_takesFirst_1 (by rw [ej1, hg1]; decide +kernel) ?_
      have q1 : k = 9 := by rw [ej1, hg1]; decide +kernel
      clear hg1 ej1 hj1
      refine kr_iload_n h dX0_takesFirst_39 rfl 2 rfl ?_
      refine kr_if_eq h 52 dX0_takesFirst_40 (by decide) (fun c40 => ?_) (fun c40 => ?_)
      · refine kr_iconst (v := 1) h dX0_takesFirst_52 (by decide) ?_
        refine kr_goto h 57 dX0_takesFirst_53 (by decide) ?_
        exact kr_zret h hr hlk dX0_takesFirst_57 (rfl) (by clear h hr hlk hnm; simp_all) (rfl)
      · refine kr_iload_n h dX0_takesFirst_43 rfl 1 rfl ?_
        refine kr_if_eq h 56 dX0_takesFirst_44 (by decide) (fun c44 => ?_) (fun c44 => ?_)
        · refine kr_iconst (v := 0) h dX0_takesFirst_56 (by decide) ?_
          exact kr_zret h hr hlk dX0_takesFirst_57 (rfl) (by clear h hr hlk hnm; simp_all) (rfl)
        · refine kr_iload_n h dX0_takesFirst_47 rfl 1 rfl ?_
          refine kr_iload_n h dX0_takesFirst_48 rfl 2 rfl ?_
          refine kr_icmp_gt h 56 dX0_takesFirst_49 (by decide) (fun c49 => ?_) (fun c49 => ?_)
          · refine kr_iconst (v := 0) h dX0_takesFirst_56 (by decide) ?_
            exact kr_zret h hr hlk dX0_takesFirst_57 (rfl) (by clear h hr hlk hnm; simp_all) (rfl)
          · refine kr_iconst (v := 1) h dX0_takesFirst_52 (by decide) ?_
            refine kr_goto h 57 dX0_takesFirst_53 (by decide) ?_
            exact kr_zret h hr hlk dX0_takesFirst_57 (rfl) (by clear h hr hlk hnm; simp_all) (rfl)
    · refine kr_tab h 58 dX0_takesFirst_1 (by rw [ej1, hg1]; decide +kernel) ?_
      have q1 : k = 10 := by rw [ej1, hg1]; decide +kernel
      clear hg1 ej1 hj1
      refine kr_iload_n h dX0_takesFirst_58 rfl 1 rfl ?_
      refine kr_if_eq h 66 dX0_takesFirst_59 (by decide) (fun c59 => ?_) (fun c59 => ?_)
      · refine kr_iconst (v := 0) h dX0_takesFirst_66 (by decide) ?_
        exact kr_zret h hr hlk dX0_takesFirst_67 (rfl) (by clear h hr hlk hnm; simp_all) (rfl)
      · refine kr_iconst (v := 1) h dX0_takesFirst_62 (by decide) ?_
        refine kr_goto h 67 dX0_takesFirst_63 (by decide) ?_
        exact kr_zret h hr hlk dX0_takesFirst_67 (rfl) (by clear h hr hlk hnm; simp_all) (rfl)
set_option maxHeartbeats 4000000 in
set_option maxRecDepth 100000 in
theorem c_suggestOfEntry (l : Launch) (D : va_G) (cI cZ cJ : ClassId) (g : Int32) : kc_M l yX0_suggestOfEntry cX0_suggestOfEntry 1 (some .int) 1 20 0 0 [.int g] D vwCl (tyL cI cZ cJ) [] (some (.int (xOfEntry g))) [] := by
  refine kc_start RX0 (by decide +kernel) rfl (Nat.le_of_ble_eq_true rfl) ?_
  intro zp ze zs zm zb zt zc h hr hlk hnm
  refine kr_iload_n h dX0_suggestOfEntry_0 rfl 0 rfl ?_
  refine kr_iconst (v := 5) h dX0_suggestOfEntry_1 (by decide) ?_
  refine kr_icmp_ne h 7 dX0_suggestOfEntry_2 (by decide) (fun c2 => ?_) (fun c2 => ?_)
  · refine kr_iload_n h dX0_suggestOfEntry_7 rfl 0 rfl ?_
    refine kr_iconst (v := 4) h dX0_suggestOfEntry_8 (by decide) ?_
    refine kr_icmp_eq h 16 dX0_suggestOfEntry_9 (by decide) (fun c9 => ?_) (fun c9 => ?_)
    · refine kr_iconst (v := 0) h dX0_suggestOfEntry_16 (by decide) ?_
      refine kr_i0 h (kc_rS h (c_okOnlyIf l D cI cZ cJ 0) mlX0_206 ysX0_okOnlyIf dX0_suggestOfEntry_17 rfl rfl ⟨Nat.le_of_ble_eq_true rfl, Nat.le_of_ble_eq_true rfl⟩ ⟨Nat.le_of_ble_eq_true rfl, Nat.le_of_ble_eq_true rfl⟩ (Nat.le_of_ble_eq_true rfl) [] rfl rfl) (fun v17 e17 => ?_)
      exact kr_iret h hr hlk dX0_suggestOfEntry_20 (by simp_all [xOfEntry]) (rfl)
    · refine kr_iconst (v := 1) h dX0_suggestOfEntry_12 (by decide) ?_
      refine kr_goto h 17 dX0_suggestOfEntry_13 (by decide) ?_
      refine kr_i0 h (kc_rS h (c_okOnlyIf l D cI cZ cJ 1) mlX0_206 ysX0_okOnlyIf dX0_suggestOfEntry_17 rfl rfl ⟨Nat.le_of_ble_eq_true rfl, Nat.le_of_ble_eq_true rfl⟩ ⟨Nat.le_of_ble_eq_true rfl, Nat.le_of_ble_eq_true rfl⟩ (Nat.le_of_ble_eq_true rfl) [] rfl rfl) (fun v17 e17 => ?_)
      exact kr_iret h hr hlk dX0_suggestOfEntry_20 (by simp_all [xOfEntry]) (rfl)
  · refine kr_iconst (v := 0) h dX0_suggestOfEntry_5 (by decide) ?_
    exact kr_iret h hr hlk dX0_suggestOfEntry_6 (by simp_all [xOfEntry]) (rfl)
end
section
set_option maxHeartbeats 4000000 in
set_option maxRecDepth 100000 in
theorem c_floorMod (l : Launch) (D : va_G) (cI cZ cJ : ClassId) (a b : Int32) (hb : ¬ b = 0) : kc_M l yJ9_floorMod cJ9_floorMod 3 (some .int) 0 0 0 0 [.int a, .int b] D vwCl (tyL cI cZ cJ) [] (some (.int (xFm a b))) [] := by
  refine kc_startF RJ9 (by decide +kernel) rfl (Nat.le_of_ble_eq_true rfl) ?_
  intro zp ze zs zm zb zt zc h hr hlk hnm
  refine kr_iload_n h dJ9_floorMod_0 rfl 0 rfl ?_
  refine kr_iload_n h dJ9_floorMod_1 rfl 1 rfl ?_
  refine kr_irem h dJ9_floorMod_2 hb (fun v2 e2 => ?_)
  refine kr_istore_n (lv' := [(2, .int v2), (0, .int a), (1, .int b)]) h dJ9_floorMod_3 rfl (by decide) rfl ?_
  refine kr_iload_n h dJ9_floorMod_4 rfl 1 rfl ?_
  refine kr_iload_n h dJ9_floorMod_5 rfl 2 rfl ?_
  refine kr_ixor h dJ9_floorMod_6 (fun v6 e6 => ?_)
  refine kr_if_ge h 18 dJ9_floorMod_7 (by decide) (fun c7 => ?_) (fun c7 => ?_)
  · refine kr_iload_n h dJ9_floorMod_18 rfl 0 rfl ?_
    exact kr_iret h hr hlk dJ9_floorMod_19 (by clear h hr hlk hnm; subst_vars; simp_all [xFm]) (rfl)
  · refine kr_iload_n h dJ9_floorMod_10 rfl 0 rfl ?_
    refine kr_if_eq h 18 dJ9_floorMod_11 (by decide) (fun c11 => ?_) (fun c11 => ?_)
    · refine kr_iload_n h dJ9_floorMod_18 rfl 0 rfl ?_
      exact kr_iret h hr hlk dJ9_floorMod_19 (by clear h hr hlk hnm; subst_vars; simp_all [xFm]) (rfl)
    · refine kr_iload_n h dJ9_floorMod_14 rfl 0 rfl ?_
      refine kr_iload_n h dJ9_floorMod_15 rfl 2 rfl ?_
      refine kr_iadd h dJ9_floorMod_16 (fun v16 e16 => ?_)
      exact kr_iret h hr hlk dJ9_floorMod_17 (by clear h hr hlk hnm; subst_vars; simp_all [xFm]) (rfl)
set_option maxHeartbeats 4000000 in
set_option maxRecDepth 100000 in
theorem c_nextEntry (l : Launch) (D : va_G) (cI cZ cJ : ClassId) (q : Nat → Nat) (x : xSt) (p s : Int32) (hp : vp_in p 40) (he : vp_in (xPlace (x.1 1 (tn p)) (x.1 6 (tn p)) s) 96) : kc_M l yX0_nextEntry cX0_nextEntry 3 (some .int) 1 22 0 0 [.ref (q 0), .int p, .int s] D vwCl (tyL cI cZ cJ) (wX cI cZ q x) (some (.int (xEntry x p s))) (wX cI cZ q (x)) := by
  refine kc_start RX0 (by decide +kernel) rfl (Nat.le_of_ble_eq_true rfl) ?_
  intro zp ze zs zm zb zt zc h hr hlk hnm
  refine kr_aload_n h dX0_nextEntry_0 rfl 0 rfl ?_
  refine kr_get h FX0ok 0 8 dX0_nextEntry_1 flX0_35 rfl rfl (by decide) rfl rfl ?_
  refine kr_aload_n h dX0_nextEntry_4 rfl 0 rfl ?_
  refine kr_get h FX0ok 0 1 dX0_nextEntry_5 flX0_13 rfl rfl (by decide) rfl rfl ?_
  refine kr_iload_n h dX0_nextEntry_8 rfl 1 rfl ?_
  refine kr_iald h 2 0 dX0_nextEntry_9 rfl rfl (hp) (fun v9 e9 => ?_)
  refine kr_aload_n h dX0_nextEntry_10 rfl 0 rfl ?_
  refine kr_get h FX0ok 0 6 dX0_nextEntry_11 flX0_29 rfl rfl (by decide) rfl rfl ?_
  refine kr_iload_n h dX0_nextEntry_14 rfl 1 rfl ?_
  refine kr_iald h 7 0 dX0_nextEntry_15 rfl rfl (hp) (fun v15 e15 => ?_)
  refine kr_iload_n h dX0_nextEntry_16 rfl 2 rfl ?_
  refine kr_i0 h (kc_rS h (c_entryPlace l D cI cZ cJ v9 v15 s) mlX0_66 ysX0_entryPlace dX0_nextEntry_17 rfl rfl ⟨Nat.le_of_ble_eq_true rfl, Nat.le_of_ble_eq_true rfl⟩ ⟨Nat.le_of_ble_eq_true rfl, Nat.le_of_ble_eq_true rfl⟩ (Nat.le_of_ble_eq_true rfl) [] rfl rfl) (fun v17 e17 => ?_)
  refine kr_iald h 9 0 dX0_nextEntry_20 rfl rfl (by rw [e17, e9, e15]; exact he) (fun v20 e20 => ?_)
  exact kr_iret h hr hlk dX0_nextEntry_21 (by rw [e20, e17, e9, e15]; rfl) (rfl)
set_option maxHeartbeats 4000000 in
set_option maxRecDepth 100000 in
theorem c_suggestInSet (l : Launch) (D : va_G) (cI cZ cJ : ClassId) (q : Nat → Nat) (x : xSt) (p v : Int32) (hp : vp_in p 40) : kc_M l yX0_suggestInSet cX0_suggestInSet 3 (some .int) 1 21 0 0 [.ref (q 0), .int p, .int v] D vwCl (tyL cI cZ cJ) (wX cI cZ q x) (some (.int (xInSet x p v))) (wX cI cZ q (x)) := by
  refine kc_start RX0 (by decide +kernel) rfl (Nat.le_of_ble_eq_true rfl) ?_
  intro zp ze zs zm zb zt zc h hr hlk hnm
  refine kr_aload_n h dX0_suggestInSet_0 rfl 0 rfl ?_
  refine kr_get h FX0ok 0 0 dX0_suggestInSet_1 flX0_9 rfl rfl (by decide) rfl rfl ?_
  refine kr_iload_n h dX0_suggestInSet_4 rfl 1 rfl ?_
  refine kr_iald h 1 0 dX0_suggestInSet_5 rfl rfl (hp) (fun v5 e5 => ?_)
  rcases kc_sw v5 0 8 with hj6 | ⟨j6, hl6, hj6, ej6⟩
  · refine kr_tabOut h 136 dX0_suggestInSet_6 (by omega) (by decide) ?_
    have n6_0 : ¬ v5 = 0 := fun z => by rw [z] at hj6; revert hj6; decide +kernel
    have n6_1 : ¬ v5 = 1 := fun z => by rw [z] at hj6; revert hj6; decide +kernel
    have n6_2 : ¬ v5 = 2 := fun z => by rw [z] at hj6; revert hj6; decide +kernel
    have n6_3 : ¬ v5 = 3 := fun z => by rw [z] at hj6; revert hj6; decide +kernel
    have n6_4 : ¬ v5 = 4 := fun z => by rw [z] at hj6; revert hj6; decide +kernel
    have n6_5 : ¬ v5 = 5 := fun z => by rw [z] at hj6; revert hj6; decide +kernel
    have n6_6 : ¬ v5 = 6 := fun z => by rw [z] at hj6; revert hj6; decide +kernel
    have n6_7 : ¬ v5 = 7 := fun z => by rw [z] at hj6; revert hj6; decide +kernel
    refine kr_iconst (v := 0) h dX0_suggestInSet_136 (by decide) ?_
    exact kr_iret h hr hlk dX0_suggestInSet_137 (by clear h hr hlk hnm; subst_vars; simp_all [xInSet]) (rfl)
  · have hg6 : (j6 = 0) ∨ (j6 = 1) ∨ (j6 = 2) ∨ (j6 = 3) ∨ (j6 = 4) ∨ (j6 = 5) ∨ (j6 = 6) ∨ (j6 = 7) := by omega
    rcases hg6 with hg6 | hg6 | hg6 | hg6 | hg6 | hg6 | hg6 | hg6
    · refine kr_tab h 52 dX0_suggestInSet_6 (by rw [ej6, hg6]; decide +kernel) ?_
      have q6 : v5 = 0 := by rw [ej6, hg6]; decide +kernel
      clear hg6 ej6 hj6
      refine kr_iconst (v := 1) h dX0_suggestInSet_52 (by decide) ?_
      exact kr_iret h hr hlk dX0_suggestInSet_53 (by clear h hr hlk hnm; subst_vars; simp_all [xInSet]) (rfl)
    · refine kr_tab h 54 dX0_suggestInSet_6 (by rw [ej6, hg6]; decide +kernel) ?_
      have q6 : v5 = 1 := by rw [ej6, hg6]; decide +kernel
      clear hg6 ej6 hj6
      refine kr_iconst (v := 4) h dX0_suggestInSet_54 (by decide) ?_
      exact kr_iret h hr hlk dX0_suggestInSet_55 (by clear h hr hlk hnm; subst_vars; simp_all [xInSet]) (rfl)
    · refine kr_tab h 56 dX0_suggestInSet_6 (by rw [ej6, hg6]; decide +kernel) ?_
      have q6 : v5 = 2 := by rw [ej6, hg6]; decide +kernel
      clear hg6 ej6 hj6
      refine kr_iconst (v := 5) h dX0_suggestInSet_56 (by decide) ?_
      exact kr_iret h hr hlk dX0_suggestInSet_57 (by clear h hr hlk hnm; subst_vars; simp_all [xInSet]) (rfl)
    · refine kr_tab h 58 dX0_suggestInSet_6 (by rw [ej6, hg6]; decide +kernel) ?_
      have q6 : v5 = 3 := by rw [ej6, hg6]; decide +kernel
      clear hg6 ej6 hj6
      refine kr_aload_n h dX0_suggestInSet_58 rfl 0 rfl ?_
      refine kr_get h FX0ok 0 6 dX0_suggestInSet_59 flX0_29 rfl rfl (by decide) rfl rfl ?_
      refine kr_iload_n h dX0_suggestInSet_62 rfl 1 rfl ?_
      refine kr_iald h 7 0 dX0_suggestInSet_63 rfl rfl (hp) (fun v63 e63 => ?_)
      refine kr_aload_n h dX0_suggestInSet_64 rfl 0 rfl ?_
      refine kr_get h FX0ok 0 2 dX0_suggestInSet_65 flX0_16 rfl rfl (by decide) rfl rfl ?_
      refine kr_iload_n h dX0_suggestInSet_68 rfl 1 rfl ?_
      refine kr_iald h 3 0 dX0_suggestInSet_69 rfl rfl (hp) (fun v69 e69 => ?_)
      refine kr_icmp_ge h 77 dX0_suggestInSet_70 (by decide) (fun c70 => ?_) (fun c70 => ?_)
      · refine kr_iconst (v := 0) h dX0_suggestInSet_77 (by decide) ?_
        refine kr_i0 h (kc_rS h (c_okOnlyIf l D cI cZ cJ 0) mlX0_206 ysX0_okOnlyIf dX0_suggestInSet_78 rfl rfl ⟨Nat.le_of_ble_eq_true rfl, Nat.le_of_ble_eq_true rfl⟩ ⟨Nat.le_of_ble_eq_true rfl, Nat.le_of_ble_eq_true rfl⟩ (Nat.le_of_ble_eq_true rfl) [] rfl rfl) (fun v78 e78 => ?_)
        exact kr_iret h hr hlk dX0_suggestInSet_81 (by clear h hr hlk hnm; subst_vars; simp_all [xInSet]) (rfl)
      · refine kr_iconst (v := 1) h dX0_suggestInSet_73 (by decide) ?_
        refine kr_goto h 78 dX0_suggestInSet_74 (by decide) ?_
        refine kr_i0 h (kc_rS h (c_okOnlyIf l D cI cZ cJ 1) mlX0_206 ysX0_okOnlyIf dX0_suggestInSet_78 rfl rfl ⟨Nat.le_of_ble_eq_true rfl, Nat.le_of_ble_eq_true rfl⟩ ⟨Nat.le_of_ble_eq_true rfl, Nat.le_of_ble_eq_true rfl⟩ (Nat.le_of_ble_eq_true rfl) [] rfl rfl) (fun v78 e78 => ?_)
        exact kr_iret h hr hlk dX0_suggestInSet_81 (by clear h hr hlk hnm; subst_vars; simp_all [xInSet]) (rfl)
    · refine kr_tab h 82 dX0_suggestInSet_6 (by rw [ej6, hg6]; decide +kernel) ?_
      have q6 : v5 = 4 := by rw [ej6, hg6]; decide +kernel
      clear hg6 ej6 hj6
      refine kr_iconst (v := 3) h dX0_suggestInSet_82 (by decide) ?_
      refine kr_iload_n h dX0_suggestInSet_83 rfl 1 rfl ?_
      refine kr_i0 h (kc_rS h (c_suggestionFrom l D cI cZ cJ 3 p) mlX0_210 ysX0_suggestionFrom dX0_suggestInSet_84 rfl rfl ⟨Nat.le_of_ble_eq_true rfl, Nat.le_of_ble_eq_true rfl⟩ ⟨Nat.le_of_ble_eq_true rfl, Nat.le_of_ble_eq_true rfl⟩ (Nat.le_of_ble_eq_true rfl) [] rfl rfl) (fun v84 e84 => ?_)
      exact kr_iret h hr hlk dX0_suggestInSet_87 (by clear h hr hlk hnm; subst_vars; simp_all [xInSet]) (rfl)
    · refine kr_tab h 88 dX0_suggestInSet_6 (by rw [ej6, hg6]; decide +kernel) ?_
      have q6 : v5 = 5 := by rw [ej6, hg6]; decide +kernel
      clear hg6 ej6 hj6
      refine kr_aload_n h dX0_suggestInSet_88 rfl 0 rfl ?_
      refine kr_get h FX0ok 0 7 dX0_suggestInSet_89 flX0_32 rfl rfl (by decide) rfl rfl ?_
      refine kr_iload_n h dX0_suggestInSet_92 rfl 1 rfl ?_
      refine kr_zald h 8 1 dX0_suggestInSet_93 rfl rfl (hp) (fun v93 e93 => ?_)
      refine kr_if_eq h 101 dX0_suggestInSet_94 (by decide) (fun c94 => ?_) (fun c94 => ?_)
      · refine kr_iconst (v := 2) h dX0_suggestInSet_101 (by decide) ?_
        refine kr_iload_n h dX0_suggestInSet_102 rfl 1 rfl ?_
        refine kr_i0 h (kc_rS h (c_suggestionFrom l D cI cZ cJ 2 p) mlX0_210 ysX0_suggestionFrom dX0_suggestInSet_103 rfl rfl ⟨Nat.le_of_ble_eq_true rfl, Nat.le_of_ble_eq_true rfl⟩ ⟨Nat.le_of_ble_eq_true rfl, Nat.le_of_ble_eq_true rfl⟩ (Nat.le_of_ble_eq_true rfl) [] rfl rfl) (fun v103 e103 => ?_)
        exact kr_iret h hr hlk dX0_suggestInSet_106 (by clear h hr hlk hnm; subst_vars; simp_all [xInSet]) (rfl)
      · refine kr_iconst (v := 0) h dX0_suggestInSet_97 (by decide) ?_
        refine kr_goto h 106 dX0_suggestInSet_98 (by decide) ?_
        exact kr_iret h hr hlk dX0_suggestInSet_106 (by clear h hr hlk hnm; subst_vars; simp_all [xInSet]) (rfl)
    · refine kr_tab h 136 dX0_suggestInSet_6 (by rw [ej6, hg6]; decide +kernel) ?_
      have q6 : v5 = 6 := by rw [ej6, hg6]; decide +kernel
      clear hg6 ej6 hj6
      refine kr_iconst (v := 0) h dX0_suggestInSet_136 (by decide) ?_
      exact kr_iret h hr hlk dX0_suggestInSet_137 (by clear h hr hlk hnm; subst_vars; simp_all [xInSet]) (rfl)
    · refine kr_tab h 107 dX0_suggestInSet_6 (by rw [ej6, hg6]; decide +kernel) ?_
      have q6 : v5 = 7 := by rw [ej6, hg6]; decide +kernel
      clear hg6 ej6 hj6
      refine kr_aload_n h dX0_suggestInSet_107 rfl 0 rfl ?_
      refine kr_get h FX0ok 0 2 dX0_suggestInSet_108 flX0_16 rfl rfl (by decide) rfl rfl ?_
      refine kr_iload_n h dX0_suggestInSet_111 rfl 1 rfl ?_
      refine kr_iald h 3 0 dX0_suggestInSet_112 rfl rfl (hp) (fun v112 e112 => ?_)
      refine kr_iload_n h dX0_suggestInSet_113 rfl 2 rfl ?_
      refine kr_icmp_gt h 131 dX0_suggestInSet_114 (by decide) (fun c114 => ?_) (fun c114 => ?_)
      · refine kr_iconst (v := 0) h dX0_suggestInSet_131 (by decide) ?_
        refine kr_i0 h (kc_rS h (c_okOnlyIf l D cI cZ cJ 0) mlX0_206 ysX0_okOnlyIf dX0_suggestInSet_132 rfl rfl ⟨Nat.le_of_ble_eq_true rfl, Nat.le_of_ble_eq_true rfl⟩ ⟨Nat.le_of_ble_eq_true rfl, Nat.le_of_ble_eq_true rfl⟩ (Nat.le_of_ble_eq_true rfl) [] rfl rfl) (fun v132 e132 => ?_)
        exact kr_iret h hr hlk dX0_suggestInSet_135 (by clear h hr hlk hnm; subst_vars; simp_all [xInSet]) (rfl)
      · refine kr_iload_n h dX0_suggestInSet_117 rfl 2 rfl ?_
        refine kr_aload_n h dX0_suggestInSet_118 rfl 0 rfl ?_
        refine kr_get h FX0ok 0 3 dX0_suggestInSet_119 flX0_19 rfl rfl (by decide) rfl rfl ?_
        refine kr_iload_n h dX0_suggestInSet_122 rfl 1 rfl ?_
        refine kr_iald h 4 0 dX0_suggestInSet_123 rfl rfl (hp) (fun v123 e123 => ?_)
        refine kr_icmp_gt h 131 dX0_suggestInSet_124 (by decide) (fun c124 => ?_) (fun c124 => ?_)
        · refine kr_iconst (v := 0) h dX0_suggestInSet_131 (by decide) ?_
          refine kr_i0 h (kc_rS h (c_okOnlyIf l D cI cZ cJ 0) mlX0_206 ysX0_okOnlyIf dX0_suggestInSet_132 rfl rfl ⟨Nat.le_of_ble_eq_true rfl, Nat.le_of_ble_eq_true rfl⟩ ⟨Nat.le_of_ble_eq_true rfl, Nat.le_of_ble_eq_true rfl⟩ (Nat.le_of_ble_eq_true rfl) [] rfl rfl) (fun v132 e132 => ?_)
          exact kr_iret h hr hlk dX0_suggestInSet_135 (by clear h hr hlk hnm; subst_vars; simp_all [xInSet]) (rfl)
        · refine kr_iconst (v := 1) h dX0_suggestInSet_127 (by decide) ?_
          refine kr_goto h 132 dX0_suggestInSet_128 (by decide) ?_
          refine kr_i0 h (kc_rS h (c_okOnlyIf l D cI cZ cJ 1) mlX0_206 ysX0_okOnlyIf dX0_suggestInSet_132 rfl rfl ⟨Nat.le_of_ble_eq_true rfl, Nat.le_of_ble_eq_true rfl⟩ ⟨Nat.le_of_ble_eq_true rfl, Nat.le_of_ble_eq_true rfl⟩ (Nat.le_of_ble_eq_true rfl) [] rfl rfl) (fun v132 e132 => ?_)
          exact kr_iret h hr hlk dX0_suggestInSet_135 (by clear h hr hlk hnm; subst_vars; simp_all [xInSet]) (rfl)
set_option maxHeartbeats 4000000 in
set_option maxRecDepth 100000 in
theorem c_addNote (l : Launch) (D : va_G) (cI cZ cJ : ClassId) (q : Nat → Nat) (x : xSt) (n : Int32) : kc_M l yX0_addNote cX0_addNote 2 none 1 22 0 0 [.ref (q 0), .int n] D vwCl (tyL cI cZ cJ) (wX cI cZ q x) none (wX cI cZ q (xNote x n)) := by
  refine kc_start RX0 (by decide +kernel) rfl (Nat.le_of_ble_eq_true rfl) ?_
  intro zp ze zs zm zb zt zc h hr hlk hnm
  refine kr_aload_n h dX0_addNote_0 rfl 0 rfl ?_
  refine kr_get h FX0ok 0 10 dX0_addNote_1 flX0_41 rfl rfl (by decide) rfl rfl ?_
  refine kr_aload_n h dX0_addNote_4 rfl 0 rfl ?_
  refine kr_get h FX0ok 0 12 dX0_addNote_5 flX0_148 rfl rfl (by decide) rfl rfl ?_
  refine kr_top h (fun v5 e5 => ?_)
  refine kr_bipush (v := 16) h dX0_addNote_8 (by decide) ?_
  refine kr_i0 h (kc_rS h (c_floorMod l D cI cZ cJ v5 16 (by decide)) mlX0_151 ysJ9_floorMod dX0_addNote_10 rfl rfl ⟨Nat.le_of_ble_eq_true rfl, Nat.le_of_ble_eq_true rfl⟩ ⟨Nat.le_of_ble_eq_true rfl, Nat.le_of_ble_eq_true rfl⟩ (Nat.le_of_ble_eq_true rfl) [] rfl rfl) (fun v10 e10 => ?_)
  refine kr_iload_n h dX0_addNote_13 rfl 1 rfl ?_
  refine kr_iast (ws' := wX cI cZ q (xA x 10 (upd (x.1 10) (tn v10) n))) h 11 0 dX0_addNote_14 rfl rfl (by rw [e10, e5]; exact xF16_in _) (wX_r10 cI cZ q x _) ?_
  refine kr_aload_n h dX0_addNote_15 rfl 0 rfl ?_
  refine kr_dup h dX0_addNote_16 rfl ?_
  refine kr_get h FX0ok 0 12 dX0_addNote_17 flX0_148 rfl rfl (by decide) rfl rfl ?_
  refine kr_top h (fun v17 e17 => ?_)
  refine kr_iconst (v := 1) h dX0_addNote_20 (by decide) ?_
  refine kr_iadd h dX0_addNote_21 (fun v21 e21 => ?_)
  refine kr_put (ws' := wX cI cZ q (xI (xA x 10 (upd (x.1 10) (tn v10) n)) 1 v21)) h FX0ok 0 12 dX0_addNote_22 flX0_148 rfl rfl (by decide) rfl rfl rfl rfl (Nat.le_of_ble_eq_true rfl) rfl ?_
  exact kr_vret h hr hlk dX0_addNote_25 (by subst_vars; rfl)
end
section
set_option maxHeartbeats 4000000 in
set_option maxRecDepth 100000 in
theorem c_suggestOfPair_step (l : Launch) (D : va_G) (cI cZ cJ : ClassId) (q : Nat → Nat) (d : Nat) (IH : ∀ (x : xSt) (p s v n : Int32), xG x d p → xSo s → kc_M l yX0_suggest cX0_suggest 7 (some .int) (2 * d + 2) (53 * d + 60) 0 0 [.ref (q 0), .int p, .int s, .int v, .int n] D vwCl (tyL cI cZ cJ) (wX cI cZ q x) (some (.int (xSug x d p s v))) (wX cI cZ q (xAsk x d p s v n))) (x : xSt) (p s v n : Int32) (hg : xG x (d + 1) p) (hs : xSo s) (hpr : pPair (x.1 0 (tn p))) : kc_M l yX0_suggestOfPair cX0_suggestOfPair 8 (some .int) (2 * d + 3) (53 * d + 86) 0 0 [.ref (q 0), .int p, .int s, .int v, .int n] D vwCl (tyL cI cZ cJ) (wX cI cZ q x) (some (.int (xSug x (d + 1) p s v))) (wX cI cZ q (xAsk x (d + 1) p s v n)) := by
  refine kc_start RX0 (by decide +kernel) rfl (Nat.le_of_ble_eq_true rfl) ?_
  intro zp ze zs zm zb zt zc h hr hlk hnm
  obtain ⟨hp, hk, hgA, hgB, hg6⟩ := id hg
  refine kr_aload_n h dX0_suggestOfPair_0 rfl 0 rfl ?_
  refine kr_aload_n h dX0_suggestOfPair_1 rfl 0 rfl ?_
  refine kr_get h FX0ok 0 1 dX0_suggestOfPair_2 flX0_13 rfl rfl (by decide) rfl rfl ?_
  refine kr_iload_n h dX0_suggestOfPair_5 rfl 1 rfl ?_
  refine kr_iald h 2 0 dX0_suggestOfPair_6 rfl rfl (hp) (fun v6 e6 => ?_)
  refine kr_iload_n h dX0_suggestOfPair_7 rfl 2 rfl ?_
  refine kr_iload_n h dX0_suggestOfPair_8 rfl 3 rfl ?_
  refine kr_iload h dX0_suggestOfPair_9 4 rfl ?_
  refine kr_iA h (kc_rV h (IH x v6 s v n (by rw [e6]; exact hgA (Or.inl hpr)) hs) mlX0_180 yvX0_suggest dX0_suggestOfPair_11 rfl rfl ⟨by dsimp only; omega, by dsimp only; omega⟩ ⟨Nat.le_of_ble_eq_true rfl, Nat.le_of_ble_eq_true rfl⟩ (Nat.le_of_ble_eq_true rfl) [0, 1, 2, 3, 4, 5, 6, 7, 8, 9, 10, 11] rfl rfl 0 rfl rfl rfl) (fun v11 e11 => ?_)
  refine kr_istore (lv' := [(5, .int v11), (0, .ref (q 0)), (1, .int p), (2, .int s), (3, .int v), (4, .int n)]) h dX0_suggestOfPair_14 (by decide) rfl ?_
  refine kr_aload_n h dX0_suggestOfPair_16 rfl 1 rfl ?_
  refine kr_get h FX0ok 0 0 dX0_suggestOfPair_17 flX0_9 rfl rfl (by decide) rfl rfl ?_
  refine kr_iload_n h dX0_suggestOfPair_20 rfl 2 rfl ?_
  refine kr_iald h 1 0 dX0_suggestOfPair_21 rfl rfl (hp) (fun v21 e21 => ?_)
  rw [xAsk_row _ _ _ _ _ _ _ (by decide)] at e21
  refine kr_bipush (v := 8) h dX0_suggestOfPair_22 (by decide) ?_
  refine kr_icmp_eq h 38 dX0_suggestOfPair_24 (by decide) (fun c24 => ?_) (fun c24 => ?_)
  · refine kr_iconst (v := 1) h dX0_suggestOfPair_38 (by decide) ?_
    refine kr_goto h 43 dX0_suggestOfPair_39 (by decide) ?_
    refine kr_istore (lv' := [(6, .int 1), (5, .int v11), (0, .ref (q 0)), (1, .int p), (2, .int s), (3, .int v), (4, .int n)]) h dX0_suggestOfPair_43 (by decide) rfl ?_
    refine kr_iload h dX0_suggestOfPair_45 0 rfl ?_
    refine kr_if_ne h 71 dX0_suggestOfPair_47 (by decide) (fun c47 => ?_) (fun c47 => ?_)
    · refine kr_aload_n h dX0_suggestOfPair_71 rfl 2 rfl ?_
      refine kr_aload_n h dX0_suggestOfPair_72 rfl 2 rfl ?_
      refine kr_get h FX0ok 0 2 dX0_suggestOfPair_73 flX0_16 rfl rfl (by decide) rfl rfl ?_
      refine kr_iload_n h dX0_suggestOfPair_76 rfl 3 rfl ?_
      refine kr_iald h 3 0 dX0_suggestOfPair_77 rfl rfl (hp) (fun v77 e77 => ?_)
      rw [xAsk_row _ _ _ _ _ _ _ (by decide)] at e77
      refine kr_iload_n h dX0_suggestOfPair_78 rfl 4 rfl ?_
      refine kr_iload_n h dX0_suggestOfPair_79 rfl 5 rfl ?_
      refine kr_iload h dX0_suggestOfPair_80 6 rfl ?_
      refine kr_iA h (kc_rV h (IH (xAsk x d v6 s v n) v77 s v n ((xG_eq (fun k hk => xAsk_row _ _ _ _ _ _ _ hk) _ _).mpr (by rw [e77]; exact hgB (Or.inl hpr))) hs) mlX0_180 yvX0_suggest dX0_suggestOfPair_82 rfl rfl ⟨by dsimp only; omega, by dsimp only; omega⟩ ⟨Nat.le_of_ble_eq_true rfl, Nat.le_of_ble_eq_true rfl⟩ (Nat.le_of_ble_eq_true rfl) [0, 1, 2, 3, 4, 5, 6, 7, 8, 9, 10, 11] rfl rfl 0 rfl rfl rfl) (fun v82 e82 => ?_)
      refine kr_istore (lv' := [(7, .int v82), (6, .int 1), (5, .int v11), (0, .ref (q 0)), (1, .int p), (2, .int s), (3, .int v), (4, .int n)]) h dX0_suggestOfPair_85 (by decide) rfl ?_
      refine kr_aload_n h dX0_suggestOfPair_87 rfl 3 rfl ?_
      refine kr_get h FX0ok 0 0 dX0_suggestOfPair_88 flX0_9 rfl rfl (by decide) rfl rfl ?_
      refine kr_iload_n h dX0_suggestOfPair_91 rfl 4 rfl ?_
      refine kr_iald h 1 0 dX0_suggestOfPair_92 rfl rfl (hp) (fun v92 e92 => ?_)
      rw [xAsk_row _ _ _ _ _ _ _ (by decide), xAsk_row _ _ _ _ _ _ _ (by decide)] at e92
      refine kr_iload h dX0_suggestOfPair_93 2 rfl ?_
      refine kr_i0 h (kc_rS h (c_kindOf l D cI cZ cJ v11) mlX0_137 ysX0_kindOf dX0_suggestOfPair_95 rfl rfl ⟨by dsimp only; omega, by dsimp only; omega⟩ ⟨Nat.le_of_ble_eq_true rfl, Nat.le_of_ble_eq_true rfl⟩ (Nat.le_of_ble_eq_true rfl) [] rfl rfl) (fun v95 e95 => ?_)
      refine kr_iload h dX0_suggestOfPair_98 0 rfl ?_
      refine kr_i0 h (kc_rS h (c_kindOf l D cI cZ cJ v82) mlX0_137 ysX0_kindOf dX0_suggestOfPair_100 rfl rfl ⟨by dsimp only; omega, by dsimp only; omega⟩ ⟨Nat.le_of_ble_eq_true rfl, Nat.le_of_ble_eq_true rfl⟩ (Nat.le_of_ble_eq_true rfl) [] rfl rfl) (fun v100 e100 => ?_)
      refine kr_i0 h (kc_rS h (c_takesFirst l D cI cZ cJ v92 v95 v100) mlX0_203 ysX0_takesFirst dX0_suggestOfPair_103 rfl rfl ⟨by dsimp only; omega, by dsimp only; omega⟩ ⟨Nat.le_of_ble_eq_true rfl, Nat.le_of_ble_eq_true rfl⟩ (Nat.le_of_ble_eq_true rfl) [] rfl rfl) (fun v103 e103 => ?_)
      refine kr_if_eq h 114 dX0_suggestOfPair_106 (by decide) (fun c106 => ?_) (fun c106 => ?_)
      · refine kr_iload h dX0_suggestOfPair_114 0 rfl ?_
        exact kr_iret h hr hlk dX0_suggestOfPair_116 (by rw [← (xPair_two (n := n) e21 e6 e77 e11 e82 hpr (by first | exact Or.inl c24 | exact Or.inr (Or.inl (by rw [e21, ← e32]; exact c35)) | exact Or.inr (Or.inr (by have z := xb_f e62 c65; rw [e55, e58] at z; rw [e21]; exact z)))).1]; first | exact (if_pos (by have z := xb_t e103 c106; rw [e92, e95, e100] at z; rw [e21]; exact z)).symm | exact (if_neg (by have z := xb_f e103 c106; rw [e92, e95, e100] at z; rw [e21]; exact z)).symm) (congrArg _ (xPair_two (n := n) e21 e6 e77 e11 e82 hpr (by first | exact Or.inl c24 | exact Or.inr (Or.inl (by rw [e21, ← e32]; exact c35)) | exact Or.inr (Or.inr (by have z := xb_f e62 c65; rw [e55, e58] at z; rw [e21]; exact z)))).2)
      · refine kr_iload h dX0_suggestOfPair_109 2 rfl ?_
        refine kr_goto h 116 dX0_suggestOfPair_111 (by decide) ?_
        exact kr_iret h hr hlk dX0_suggestOfPair_116 (by rw [← (xPair_two (n := n) e21 e6 e77 e11 e82 hpr (by first | exact Or.inl c24 | exact Or.inr (Or.inl (by rw [e21, ← e32]; exact c35)) | exact Or.inr (Or.inr (by have z := xb_f e62 c65; rw [e55, e58] at z; rw [e21]; exact z)))).1]; first | exact (if_pos (by have z := xb_t e103 c106; rw [e92, e95, e100] at z; rw [e21]; exact z)).symm | exact (if_neg (by have z := xb_f e103 c106; rw [e92, e95, e100] at z; rw [e21]; exact z)).symm) (congrArg _ (xPair_two (n := n) e21 e6 e77 e11 e82 hpr (by first | exact Or.inl c24 | exact Or.inr (Or.inl (by rw [e21, ← e32]; exact c35)) | exact Or.inr (Or.inr (by have z := xb_f e62 c65; rw [e55, e58] at z; rw [e21]; exact z)))).2)
    · exact absurd c47 (by decide)
  · refine kr_aload_n h dX0_suggestOfPair_27 rfl 1 rfl ?_
    refine kr_get h FX0ok 0 0 dX0_suggestOfPair_28 flX0_9 rfl rfl (by decide) rfl rfl ?_
    refine kr_iload_n h dX0_suggestOfPair_31 rfl 2 rfl ?_
    refine kr_iald h 1 0 dX0_suggestOfPair_32 rfl rfl (hp) (fun v32 e32 => ?_)
    rw [xAsk_row _ _ _ _ _ _ _ (by decide)] at e32
    refine kr_bipush (v := 9) h dX0_suggestOfPair_33 (by decide) ?_
    refine kr_icmp_ne h 42 dX0_suggestOfPair_35 (by decide) (fun c35 => ?_) (fun c35 => ?_)
    · refine kr_iconst (v := 0) h dX0_suggestOfPair_42 (by decide) ?_
      refine kr_istore (lv' := [(6, .int 0), (5, .int v11), (0, .ref (q 0)), (1, .int p), (2, .int s), (3, .int v), (4, .int n)]) h dX0_suggestOfPair_43 (by decide) rfl ?_
      refine kr_iload h dX0_suggestOfPair_45 0 rfl ?_
      refine kr_if_ne h 71 dX0_suggestOfPair_47 (by decide) (fun c47 => ?_) (fun c47 => ?_)
      · exact absurd c47 (by decide)
      · refine kr_aload_n h dX0_suggestOfPair_50 rfl 2 rfl ?_
        refine kr_get h FX0ok 0 0 dX0_suggestOfPair_51 flX0_9 rfl rfl (by decide) rfl rfl ?_
        refine kr_iload_n h dX0_suggestOfPair_54 rfl 3 rfl ?_
        refine kr_iald h 1 0 dX0_suggestOfPair_55 rfl rfl (hp) (fun v55 e55 => ?_)
        rw [xAsk_row _ _ _ _ _ _ _ (by decide)] at e55
        refine kr_iload h dX0_suggestOfPair_56 1 rfl ?_
        refine kr_i0 h (kc_rS h (c_kindOf l D cI cZ cJ v11) mlX0_137 ysX0_kindOf dX0_suggestOfPair_58 rfl rfl ⟨by dsimp only; omega, by dsimp only; omega⟩ ⟨Nat.le_of_ble_eq_true rfl, Nat.le_of_ble_eq_true rfl⟩ (Nat.le_of_ble_eq_true rfl) [] rfl rfl) (fun v58 e58 => ?_)
        refine kr_iconst (v := 0) h dX0_suggestOfPair_61 (by decide) ?_
        refine kr_i0 h (kc_rS h (c_takesFirst l D cI cZ cJ v55 v58 0) mlX0_203 ysX0_takesFirst dX0_suggestOfPair_62 rfl rfl ⟨by dsimp only; omega, by dsimp only; omega⟩ ⟨Nat.le_of_ble_eq_true rfl, Nat.le_of_ble_eq_true rfl⟩ (Nat.le_of_ble_eq_true rfl) [] rfl rfl) (fun v62 e62 => ?_)
        refine kr_if_eq h 71 dX0_suggestOfPair_65 (by decide) (fun c65 => ?_) (fun c65 => ?_)
        · refine kr_aload_n h dX0_suggestOfPair_71 rfl 2 rfl ?_
          refine kr_aload_n h dX0_suggestOfPair_72 rfl 2 rfl ?_
          refine kr_get h FX0ok 0 2 dX0_suggestOfPair_73 flX0_16 rfl rfl (by decide) rfl rfl ?_
          refine kr_iload_n h dX0_suggestOfPair_76 rfl 3 rfl ?_
          refine kr_iald h 3 0 dX0_suggestOfPair_77 rfl rfl (hp) (fun v77 e77 => ?_)
          rw [xAsk_row _ _ _ _ _ _ _ (by decide)] at e77
          refine kr_iload_n h dX0_suggestOfPair_78 rfl 4 rfl ?_
          refine kr_iload_n h dX0_suggestOfPair_79 rfl 5 rfl ?_
          refine kr_iload h dX0_suggestOfPair_80 6 rfl ?_
          refine kr_iA h (kc_rV h (IH (xAsk x d v6 s v n) v77 s v n ((xG_eq (fun k hk => xAsk_row _ _ _ _ _ _ _ hk) _ _).mpr (by rw [e77]; exact hgB (Or.inl hpr))) hs) mlX0_180 yvX0_suggest dX0_suggestOfPair_82 rfl rfl ⟨by dsimp only; omega, by dsimp only; omega⟩ ⟨Nat.le_of_ble_eq_true rfl, Nat.le_of_ble_eq_true rfl⟩ (Nat.le_of_ble_eq_true rfl) [0, 1, 2, 3, 4, 5, 6, 7, 8, 9, 10, 11] rfl rfl 0 rfl rfl rfl) (fun v82 e82 => ?_)
          refine kr_istore (lv' := [(7, .int v82), (6, .int 0), (5, .int v11), (0, .ref (q 0)), (1, .int p), (2, .int s), (3, .int v), (4, .int n)]) h dX0_suggestOfPair_85 (by decide) rfl ?_
          refine kr_aload_n h dX0_suggestOfPair_87 rfl 3 rfl ?_
          refine kr_get h FX0ok 0 0 dX0_suggestOfPair_88 flX0_9 rfl rfl (by decide) rfl rfl ?_
          refine kr_iload_n h dX0_suggestOfPair_91 rfl 4 rfl ?_
          refine kr_iald h 1 0 dX0_suggestOfPair_92 rfl rfl (hp) (fun v92 e92 => ?_)
          rw [xAsk_row _ _ _ _ _ _ _ (by decide), xAsk_row _ _ _ _ _ _ _ (by decide)] at e92
          refine kr_iload h dX0_suggestOfPair_93 2 rfl ?_
          refine kr_i0 h (kc_rS h (c_kindOf l D cI cZ cJ v11) mlX0_137 ysX0_kindOf dX0_suggestOfPair_95 rfl rfl ⟨by dsimp only; omega, by dsimp only; omega⟩ ⟨Nat.le_of_ble_eq_true rfl, Nat.le_of_ble_eq_true rfl⟩ (Nat.le_of_ble_eq_true rfl) [] rfl rfl) (fun v95 e95 => ?_)
          refine kr_iload h dX0_suggestOfPair_98 0 rfl ?_
          refine kr_i0 h (kc_rS h (c_kindOf l D cI cZ cJ v82) mlX0_137 ysX0_kindOf dX0_suggestOfPair_100 rfl rfl ⟨by dsimp only; omega, by dsimp only; omega⟩ ⟨Nat.le_of_ble_eq_true rfl, Nat.le_of_ble_eq_true rfl⟩ (Nat.le_of_ble_eq_true rfl) [] rfl rfl) (fun v100 e100 => ?_)
          refine kr_i0 h (kc_rS h (c_takesFirst l D cI cZ cJ v92 v95 v100) mlX0_203 ysX0_takesFirst dX0_suggestOfPair_103 rfl rfl ⟨by dsimp only; omega, by dsimp only; omega⟩ ⟨Nat.le_of_ble_eq_true rfl, Nat.le_of_ble_eq_true rfl⟩ (Nat.le_of_ble_eq_true rfl) [] rfl rfl) (fun v103 e103 => ?_)
          refine kr_if_eq h 114 dX0_suggestOfPair_106 (by decide) (fun c106 => ?_) (fun c106 => ?_)
          · refine kr_iload h dX0_suggestOfPair_114 0 rfl ?_
            exact kr_iret h hr hlk dX0_suggestOfPair_116 (by rw [← (xPair_two (n := n) e21 e6 e77 e11 e82 hpr (by first | exact Or.inl c24 | exact Or.inr (Or.inl (by rw [e21, ← e32]; exact c35)) | exact Or.inr (Or.inr (by have z := xb_f e62 c65; rw [e55, e58] at z; rw [e21]; exact z)))).1]; first | exact (if_pos (by have z := xb_t e103 c106; rw [e92, e95, e100] at z; rw [e21]; exact z)).symm | exact (if_neg (by have z := xb_f e103 c106; rw [e92, e95, e100] at z; rw [e21]; exact z)).symm) (congrArg _ (xPair_two (n := n) e21 e6 e77 e11 e82 hpr (by first | exact Or.inl c24 | exact Or.inr (Or.inl (by rw [e21, ← e32]; exact c35)) | exact Or.inr (Or.inr (by have z := xb_f e62 c65; rw [e55, e58] at z; rw [e21]; exact z)))).2)
          · refine kr_iload h dX0_suggestOfPair_109 2 rfl ?_
            refine kr_goto h 116 dX0_suggestOfPair_111 (by decide) ?_
            exact kr_iret h hr hlk dX0_suggestOfPair_116 (by rw [← (xPair_two (n := n) e21 e6 e77 e11 e82 hpr (by first | exact Or.inl c24 | exact Or.inr (Or.inl (by rw [e21, ← e32]; exact c35)) | exact Or.inr (Or.inr (by have z := xb_f e62 c65; rw [e55, e58] at z; rw [e21]; exact z)))).1]; first | exact (if_pos (by have z := xb_t e103 c106; rw [e92, e95, e100] at z; rw [e21]; exact z)).symm | exact (if_neg (by have z := xb_f e103 c106; rw [e92, e95, e100] at z; rw [e21]; exact z)).symm) (congrArg _ (xPair_two (n := n) e21 e6 e77 e11 e82 hpr (by first | exact Or.inl c24 | exact Or.inr (Or.inl (by rw [e21, ← e32]; exact c35)) | exact Or.inr (Or.inr (by have z := xb_f e62 c65; rw [e55, e58] at z; rw [e21]; exact z)))).2)
        · refine kr_iload h dX0_suggestOfPair_68 1 rfl ?_
          exact kr_iret h hr hlk dX0_suggestOfPair_70 ((xPair_skip (n := n) e21 e6 e11 hpr c24 (by rw [e21, ← e32]; exact c35) (by have z := xb_t e62 c65; rw [e55, e58] at z; rw [e21]; exact z)).1) (congrArg _ (xPair_skip (n := n) e21 e6 e11 hpr c24 (by rw [e21, ← e32]; exact c35) (by have z := xb_t e62 c65; rw [e55, e58] at z; rw [e21]; exact z)).2)
    · refine kr_iconst (v := 1) h dX0_suggestOfPair_38 (by decide) ?_
      refine kr_goto h 43 dX0_suggestOfPair_39 (by decide) ?_
      refine kr_istore (lv' := [(6, .int 1), (5, .int v11), (0, .ref (q 0)), (1, .int p), (2, .int s), (3, .int v), (4, .int n)]) h dX0_suggestOfPair_43 (by decide) rfl ?_
      refine kr_iload h dX0_suggestOfPair_45 0 rfl ?_
      refine kr_if_ne h 71 dX0_suggestOfPair_47 (by decide) (fun c47 => ?_) (fun c47 => ?_)
      · refine kr_aload_n h dX0_suggestOfPair_71 rfl 2 rfl ?_
        refine kr_aload_n h dX0_suggestOfPair_72 rfl 2 rfl ?_
        refine kr_get h FX0ok 0 2 dX0_suggestOfPair_73 flX0_16 rfl rfl (by decide) rfl rfl ?_
        refine kr_iload_n h dX0_suggestOfPair_76 rfl 3 rfl ?_
        refine kr_iald h 3 0 dX0_suggestOfPair_77 rfl rfl (hp) (fun v77 e77 => ?_)
        rw [xAsk_row _ _ _ _ _ _ _ (by decide)] at e77
        refine kr_iload_n h dX0_suggestOfPair_78 rfl 4 rfl ?_
        refine kr_iload_n h dX0_suggestOfPair_79 rfl 5 rfl ?_
        refine kr_iload h dX0_suggestOfPair_80 6 rfl ?_
        refine kr_iA h (kc_rV h (IH (xAsk x d v6 s v n) v77 s v n ((xG_eq (fun k hk => xAsk_row _ _ _ _ _ _ _ hk) _ _).mpr (by rw [e77]; exact hgB (Or.inl hpr))) hs) mlX0_180 yvX0_suggest dX0_suggestOfPair_82 rfl rfl ⟨by dsimp only; omega, by dsimp only; omega⟩ ⟨Nat.le_of_ble_eq_true rfl, Nat.le_of_ble_eq_true rfl⟩ (Nat.le_of_ble_eq_true rfl) [0, 1, 2, 3, 4, 5, 6, 7, 8, 9, 10, 11] rfl rfl 0 rfl rfl rfl) (fun v82 e82 => ?_)
        refine kr_istore (lv' := [(7, .int v82), (6, .int 1), (5, .int v11), (0, .ref (q 0)), (1, .int p), (2, .int s), (3, .int v), (4, .int n)]) h dX0_suggestOfPair_85 (by decide) rfl ?_
        refine kr_aload_n h dX0_suggestOfPair_87 rfl 3 rfl ?_
        refine kr_get h FX0ok 0 0 dX0_suggestOfPair_88 flX0_9 rfl rfl (by decide) rfl rfl ?_
        refine kr_iload_n h dX0_suggestOfPair_91 rfl 4 rfl ?_
        refine kr_iald h 1 0 dX0_suggestOfPair_92 rfl rfl (hp) (fun v92 e92 => ?_)
        rw [xAsk_row _ _ _ _ _ _ _ (by decide), xAsk_row _ _ _ _ _ _ _ (by decide)] at e92
        refine kr_iload h dX0_suggestOfPair_93 2 rfl ?_
        refine kr_i0 h (kc_rS h (c_kindOf l D cI cZ cJ v11) mlX0_137 ysX0_kindOf dX0_suggestOfPair_95 rfl rfl ⟨by dsimp only; omega, by dsimp only; omega⟩ ⟨Nat.le_of_ble_eq_true rfl, Nat.le_of_ble_eq_true rfl⟩ (Nat.le_of_ble_eq_true rfl) [] rfl rfl) (fun v95 e95 => ?_)
        refine kr_iload h dX0_suggestOfPair_98 0 rfl ?_
        refine kr_i0 h (kc_rS h (c_kindOf l D cI cZ cJ v82) mlX0_137 ysX0_kindOf dX0_suggestOfPair_100 rfl rfl ⟨by dsimp only; omega, by dsimp only; omega⟩ ⟨Nat.le_of_ble_eq_true rfl, Nat.le_of_ble_eq_true rfl⟩ (Nat.le_of_ble_eq_true rfl) [] rfl rfl) (fun v100 e100 => ?_)
        refine kr_i0 h (kc_rS h (c_takesFirst l D cI cZ cJ v92 v95 v100) mlX0_203 ysX0_takesFirst dX0_suggestOfPair_103 rfl rfl ⟨by dsimp only; omega, by dsimp only; omega⟩ ⟨Nat.le_of_ble_eq_true rfl, Nat.le_of_ble_eq_true rfl⟩ (Nat.le_of_ble_eq_true rfl) [] rfl rfl) (fun v103 e103 => ?_)
        refine kr_if_eq h 114 dX0_suggestOfPair_106 (by decide) (fun c106 => ?_) (fun c106 => ?_)
        · refine kr_iload h dX0_suggestOfPair_114 0 rfl ?_
          exact kr_iret h hr hlk dX0_suggestOfPair_116 (by rw [← (xPair_two (n := n) e21 e6 e77 e11 e82 hpr (by first | exact Or.inl c24 | exact Or.inr (Or.inl (by rw [e21, ← e32]; exact c35)) | exact Or.inr (Or.inr (by have z := xb_f e62 c65; rw [e55, e58] at z; rw [e21]; exact z)))).1]; first | exact (if_pos (by have z := xb_t e103 c106; rw [e92, e95, e100] at z; rw [e21]; exact z)).symm | exact (if_neg (by have z := xb_f e103 c106; rw [e92, e95, e100] at z; rw [e21]; exact z)).symm) (congrArg _ (xPair_two (n := n) e21 e6 e77 e11 e82 hpr (by first | exact Or.inl c24 | exact Or.inr (Or.inl (by rw [e21, ← e32]; exact c35)) | exact Or.inr (Or.inr (by have z := xb_f e62 c65; rw [e55, e58] at z; rw [e21]; exact z)))).2)
        · refine kr_iload h dX0_suggestOfPair_109 2 rfl ?_
          refine kr_goto h 116 dX0_suggestOfPair_111 (by decide) ?_
          exact kr_iret h hr hlk dX0_suggestOfPair_116 (by rw [← (xPair_two (n := n) e21 e6 e77 e11 e82 hpr (by first | exact Or.inl c24 | exact Or.inr (Or.inl (by rw [e21, ← e32]; exact c35)) | exact Or.inr (Or.inr (by have z := xb_f e62 c65; rw [e55, e58] at z; rw [e21]; exact z)))).1]; first | exact (if_pos (by have z := xb_t e103 c106; rw [e92, e95, e100] at z; rw [e21]; exact z)).symm | exact (if_neg (by have z := xb_f e103 c106; rw [e92, e95, e100] at z; rw [e21]; exact z)).symm) (congrArg _ (xPair_two (n := n) e21 e6 e77 e11 e82 hpr (by first | exact Or.inl c24 | exact Or.inr (Or.inl (by rw [e21, ← e32]; exact c35)) | exact Or.inr (Or.inr (by have z := xb_f e62 c65; rw [e55, e58] at z; rw [e21]; exact z)))).2)
      · exact absurd c47 (by decide)
set_option maxHeartbeats 4000000 in
set_option maxRecDepth 100000 in
theorem c_suggest_step (l : Launch) (D : va_G) (cI cZ cJ : ClassId) (q : Nat → Nat) (d : Nat) (IH : ∀ (x : xSt) (p s v n : Int32), xG x d p → xSo s → kc_M l yX0_suggest cX0_suggest 7 (some .int) (2 * d + 2) (53 * d + 60) 0 0 [.ref (q 0), .int p, .int s, .int v, .int n] D vwCl (tyL cI cZ cJ) (wX cI cZ q x) (some (.int (xSug x d p s v))) (wX cI cZ q (xAsk x d p s v n))) (x : xSt) (p s v n : Int32) (hg : xG x (d + 1) p) (hs : xSo s) : kc_M l yX0_suggest cX0_suggest 7 (some .int) (2 * d + 4) (53 * d + 113) 0 0 [.ref (q 0), .int p, .int s, .int v, .int n] D vwCl (tyL cI cZ cJ) (wX cI cZ q x) (some (.int (xSug x (d + 1) p s v))) (wX cI cZ q (xAsk x (d + 1) p s v n)) := by
  refine kc_start RX0 (by decide +kernel) rfl (Nat.le_of_ble_eq_true rfl) ?_
  intro zp ze zs zm zb zt zc h hr hlk hnm
  obtain ⟨hp, hk, hgA, hgB, hg6⟩ := id hg
  refine kr_aload_n h dX0_suggest_0 rfl 0 rfl ?_
  refine kr_get h FX0ok 0 0 dX0_suggest_1 flX0_9 rfl rfl (by decide) rfl rfl ?_
  refine kr_iload_n h dX0_suggest_4 rfl 1 rfl ?_
  refine kr_iald h 1 0 dX0_suggest_5 rfl rfl (hp) (fun v5 e5 => ?_)
  obtain ⟨j6, hj6, ej6⟩ := (show ∃ j : Nat, j < 15 ∧ v5 = nI j by rw [e5]; exact hk)
  have hg6 : (j6 = 0 ∨ j6 = 1 ∨ j6 = 2 ∨ j6 = 3 ∨ j6 = 4 ∨ j6 = 5 ∨ j6 = 7) ∨ (j6 = 6) ∨ (j6 = 8 ∨ j6 = 9 ∨ j6 = 10 ∨ j6 = 11) ∨ (j6 = 12) ∨ (j6 = 13) ∨ (j6 = 14) := by omega
  rcases hg6 with hg6 | hg6 | hg6 | hg6 | hg6 | hg6
  · refine kr_tab h 196 dX0_suggest_6 (by rcases hg6 with hg6 | hg6 | hg6 | hg6 | hg6 | hg6 | hg6 <;> rw [ej6, hg6] <;> decide +kernel) ?_
    have q6 : v5 = 0 ∨ v5 = 1 ∨ v5 = 2 ∨ v5 = 3 ∨ v5 = 4 ∨ v5 = 5 ∨ v5 = 7 := by rcases hg6 with hg6 | hg6 | hg6 | hg6 | hg6 | hg6 | hg6 <;> rw [ej6, hg6] <;> decide +kernel
    clear hg6 ej6 hj6
    refine kr_aload_n h dX0_suggest_196 rfl 0 rfl ?_
    refine kr_get h FX0ok 0 1 dX0_suggest_197 flX0_13 rfl rfl (by decide) rfl rfl ?_
    refine kr_iload_n h dX0_suggest_200 rfl 1 rfl ?_
    refine kr_iald h 2 0 dX0_suggest_201 rfl rfl (hp) (fun v201 e201 => ?_)
    refine kr_iload_n h dX0_suggest_202 rfl 2 rfl ?_
    refine kr_i0 h (kc_rS h (c_inSet l D cI cZ cJ v201 s) mlX0_187 ysX0_inSet dX0_suggest_203 rfl rfl ⟨by dsimp only; omega, by dsimp only; omega⟩ ⟨Nat.le_of_ble_eq_true rfl, Nat.le_of_ble_eq_true rfl⟩ (Nat.le_of_ble_eq_true rfl) [] rfl rfl) (fun v203 e203 => ?_)
    refine kr_if_eq h 218 dX0_suggest_206 (by decide) (fun c206 => ?_) (fun c206 => ?_)
    · refine kr_iconst (v := 0) h dX0_suggest_218 (by decide) ?_
      exact kr_iret h hr hlk dX0_suggest_219 (by rw [xSug_0 (by rw [← e5]; exact q6), ← e201]; first | exact (if_neg (xb_f e203 c206)).symm | (rw [if_pos (xb_t e203 c206)]; exact e212)) (by rw [xAsk_0 (by rw [← e5]; exact q6)])
    · refine kr_aload_n h dX0_suggest_209 rfl 0 rfl ?_
      refine kr_iload_n h dX0_suggest_210 rfl 1 rfl ?_
      refine kr_iload_n h dX0_suggest_211 rfl 3 rfl ?_
      refine kr_iA h (kc_rV h (c_suggestInSet l D cI cZ cJ q x p v (hp)) mlX0_200 yvX0_suggestInSet dX0_suggest_212 rfl rfl ⟨by dsimp only; omega, by dsimp only; omega⟩ ⟨Nat.le_of_ble_eq_true rfl, Nat.le_of_ble_eq_true rfl⟩ (Nat.le_of_ble_eq_true rfl) [0, 1, 2, 3, 4, 5, 6, 7, 8, 9, 10, 11] rfl rfl 0 rfl rfl rfl) (fun v212 e212 => ?_)
      refine kr_goto h 219 dX0_suggest_215 (by decide) ?_
      exact kr_iret h hr hlk dX0_suggest_219 (by rw [xSug_0 (by rw [← e5]; exact q6), ← e201]; first | exact (if_neg (xb_f e203 c206)).symm | (rw [if_pos (xb_t e203 c206)]; exact e212)) (by rw [xAsk_0 (by rw [← e5]; exact q6)])
  · refine kr_tab h 186 dX0_suggest_6 (by rw [ej6, hg6]; decide +kernel) ?_
    have q6 : v5 = 6 := by rw [ej6, hg6]; decide +kernel
    clear hg6 ej6 hj6
    refine kr_aload_n h dX0_suggest_186 rfl 0 rfl ?_
    refine kr_iload_n h dX0_suggest_187 rfl 1 rfl ?_
    refine kr_iload_n h dX0_suggest_188 rfl 2 rfl ?_
    refine kr_iA h (kc_rV h (c_nextEntry l D cI cZ cJ q x p s (hp) (xG_place (hg6 (by rw [← e5]; exact q6)) hs)) mlX0_194 yvX0_nextEntry dX0_suggest_189 rfl rfl ⟨by dsimp only; omega, by dsimp only; omega⟩ ⟨Nat.le_of_ble_eq_true rfl, Nat.le_of_ble_eq_true rfl⟩ (Nat.le_of_ble_eq_true rfl) [0, 1, 2, 3, 4, 5, 6, 7, 8, 9, 10, 11] rfl rfl 0 rfl rfl rfl) (fun v189 e189 => ?_)
    refine kr_i0 h (kc_rS h (c_suggestOfEntry l D cI cZ cJ v189) mlX0_197 ysX0_suggestOfEntry dX0_suggest_192 rfl rfl ⟨by dsimp only; omega, by dsimp only; omega⟩ ⟨Nat.le_of_ble_eq_true rfl, Nat.le_of_ble_eq_true rfl⟩ (Nat.le_of_ble_eq_true rfl) [] rfl rfl) (fun v192 e192 => ?_)
    exact kr_iret h hr hlk dX0_suggest_195 (by rw [e192, e189]; exact (xSug_6 (e5.symm.trans q6)).symm) (by rw [xAsk_6 (e5.symm.trans q6)])
  · refine kr_tab h 56 dX0_suggest_6 (by rcases hg6 with hg6 | hg6 | hg6 | hg6 <;> rw [ej6, hg6] <;> decide +kernel) ?_
    have q6 : v5 = 8 ∨ v5 = 9 ∨ v5 = 10 ∨ v5 = 11 := by rcases hg6 with hg6 | hg6 | hg6 | hg6 <;> rw [ej6, hg6] <;> decide +kernel
    clear hg6 ej6 hj6
    refine kr_aload_n h dX0_suggest_56 rfl 0 rfl ?_
    refine kr_iload_n h dX0_suggest_57 rfl 1 rfl ?_
    refine kr_iload_n h dX0_suggest_58 rfl 2 rfl ?_
    refine kr_iload_n h dX0_suggest_59 rfl 3 rfl ?_
    refine kr_iload h dX0_suggest_60 4 rfl ?_
    refine kr_iA h (kc_rV h (c_suggestOfPair_step l D cI cZ cJ q d IH x p s v n hg hs (by rw [← e5]; exact q6)) mlX0_184 yvX0_suggestOfPair dX0_suggest_62 rfl rfl ⟨by dsimp only; omega, by dsimp only; omega⟩ ⟨Nat.le_of_ble_eq_true rfl, Nat.le_of_ble_eq_true rfl⟩ (Nat.le_of_ble_eq_true rfl) [0, 1, 2, 3, 4, 5, 6, 7, 8, 9, 10, 11] rfl rfl 0 rfl rfl rfl) (fun v62 e62 => ?_)
    exact kr_iret h hr hlk dX0_suggest_65 (e62) (rfl)
  · refine kr_tab h 66 dX0_suggest_6 (by rw [ej6, hg6]; decide +kernel) ?_
    have q6 : v5 = 12 := by rw [ej6, hg6]; decide +kernel
    clear hg6 ej6 hj6
    refine kr_aload_n h dX0_suggest_66 rfl 0 rfl ?_
    refine kr_get h FX0ok 0 1 dX0_suggest_67 flX0_13 rfl rfl (by decide) rfl rfl ?_
    refine kr_iload_n h dX0_suggest_70 rfl 1 rfl ?_
    refine kr_iald h 2 0 dX0_suggest_71 rfl rfl (hp) (fun v71 e71 => ?_)
    refine kr_iload_n h dX0_suggest_72 rfl 2 rfl ?_
    refine kr_i0 h (kc_rS h (c_inSet l D cI cZ cJ v71 s) mlX0_187 ysX0_inSet dX0_suggest_73 rfl rfl ⟨by dsimp only; omega, by dsimp only; omega⟩ ⟨Nat.le_of_ble_eq_true rfl, Nat.le_of_ble_eq_true rfl⟩ (Nat.le_of_ble_eq_true rfl) [] rfl rfl) (fun v73 e73 => ?_)
    refine kr_if_eq h 96 dX0_suggest_76 (by decide) (fun c76 => ?_) (fun c76 => ?_)
    · refine kr_iconst (v := 0) h dX0_suggest_96 (by decide) ?_
      exact kr_iret h hr hlk dX0_suggest_97 (by rw [xSug_12 (e5.symm.trans q6), ← e71]; first | exact (if_neg (xb_f e73 c76)).symm | (rw [if_pos (xb_t e73 c76), ← e85]; exact e90)) (by rw [xAsk_12 (e5.symm.trans q6), ← e71]; first | rw [if_neg (xb_f e73 c76)] | rw [if_pos (xb_t e73 c76), ← e85])
    · refine kr_aload_n h dX0_suggest_79 rfl 0 rfl ?_
      refine kr_aload_n h dX0_suggest_80 rfl 0 rfl ?_
      refine kr_get h FX0ok 0 2 dX0_suggest_81 flX0_16 rfl rfl (by decide) rfl rfl ?_
      refine kr_iload_n h dX0_suggest_84 rfl 1 rfl ?_
      refine kr_iald h 3 0 dX0_suggest_85 rfl rfl (hp) (fun v85 e85 => ?_)
      refine kr_iload_n h dX0_suggest_86 rfl 2 rfl ?_
      refine kr_iload_n h dX0_suggest_87 rfl 3 rfl ?_
      refine kr_iload h dX0_suggest_88 4 rfl ?_
      refine kr_iA h (kc_rV h (IH x v85 s v n (by rw [e85]; exact hgB (Or.inr (by rw [← e5]; exact q6))) hs) mlX0_180 yvX0_suggest dX0_suggest_90 rfl rfl ⟨by dsimp only; omega, by dsimp only; omega⟩ ⟨Nat.le_of_ble_eq_true rfl, Nat.le_of_ble_eq_true rfl⟩ (Nat.le_of_ble_eq_true rfl) [0, 1, 2, 3, 4, 5, 6, 7, 8, 9, 10, 11] rfl rfl 0 rfl rfl rfl) (fun v90 e90 => ?_)
      refine kr_goto h 97 dX0_suggest_93 (by decide) ?_
      exact kr_iret h hr hlk dX0_suggest_97 (by rw [xSug_12 (e5.symm.trans q6), ← e71]; first | exact (if_neg (xb_f e73 c76)).symm | (rw [if_pos (xb_t e73 c76), ← e85]; exact e90)) (by rw [xAsk_12 (e5.symm.trans q6), ← e71]; first | rw [if_neg (xb_f e73 c76)] | rw [if_pos (xb_t e73 c76), ← e85])
  · refine kr_tab h 98 dX0_suggest_6 (by rw [ej6, hg6]; decide +kernel) ?_
    have q6 : v5 = 13 := by rw [ej6, hg6]; decide +kernel
    clear hg6 ej6 hj6
    refine kr_aload_n h dX0_suggest_98 rfl 0 rfl ?_
    refine kr_aload_n h dX0_suggest_99 rfl 0 rfl ?_
    refine kr_get h FX0ok 0 1 dX0_suggest_100 flX0_13 rfl rfl (by decide) rfl rfl ?_
    refine kr_iload_n h dX0_suggest_103 rfl 1 rfl ?_
    refine kr_iald h 2 0 dX0_suggest_104 rfl rfl (hp) (fun v104 e104 => ?_)
    refine kr_iload_n h dX0_suggest_105 rfl 2 rfl ?_
    refine kr_iload_n h dX0_suggest_106 rfl 3 rfl ?_
    refine kr_iload h dX0_suggest_107 4 rfl ?_
    refine kr_iA h (kc_rV h (IH x v104 s v n (by rw [e104]; exact hgA (Or.inr (Or.inl (by rw [← e5]; exact q6)))) hs) mlX0_180 yvX0_suggest dX0_suggest_109 rfl rfl ⟨by dsimp only; omega, by dsimp only; omega⟩ ⟨Nat.le_of_ble_eq_true rfl, Nat.le_of_ble_eq_true rfl⟩ (Nat.le_of_ble_eq_true rfl) [0, 1, 2, 3, 4, 5, 6, 7, 8, 9, 10, 11] rfl rfl 0 rfl rfl rfl) (fun v109 e109 => ?_)
    refine kr_istore (lv' := [(5, .int v109), (0, .ref (q 0)), (1, .int p), (2, .int s), (3, .int v), (4, .int n)]) h dX0_suggest_112 (by decide) rfl ?_
    refine kr_iload h dX0_suggest_114 5 rfl ?_
    refine kr_if_eq h 141 dX0_suggest_116 (by decide) (fun c116 => ?_) (fun c116 => ?_)
    · refine kr_iload h dX0_suggest_141 0 rfl ?_
      exact kr_iret h hr hlk dX0_suggest_143 (by rw [xSug_13 (e5.symm.trans q6), ← e104]; exact e109) (by rw [xAsk_13 (e5.symm.trans q6), ← e104, ← e109]; first | rw [if_pos (Or.inl c116)] | rw [if_pos (Or.inr (e121.symm.trans c124))] | rw [if_neg (fun z => z.elim c116 (fun z => c124 (e121.trans z))), e137, e135, e132])
    · refine kr_iload h dX0_suggest_119 0 rfl ?_
      refine kr_i0 h (kc_rS h (c_kindOf l D cI cZ cJ v109) mlX0_137 ysX0_kindOf dX0_suggest_121 rfl rfl ⟨by dsimp only; omega, by dsimp only; omega⟩ ⟨Nat.le_of_ble_eq_true rfl, Nat.le_of_ble_eq_true rfl⟩ (Nat.le_of_ble_eq_true rfl) [] rfl rfl) (fun v121 e121 => ?_)
      refine kr_if_eq h 141 dX0_suggest_124 (by decide) (fun c124 => ?_) (fun c124 => ?_)
      · refine kr_iload h dX0_suggest_141 0 rfl ?_
        exact kr_iret h hr hlk dX0_suggest_143 (by rw [xSug_13 (e5.symm.trans q6), ← e104]; exact e109) (by rw [xAsk_13 (e5.symm.trans q6), ← e104, ← e109]; first | rw [if_pos (Or.inl c116)] | rw [if_pos (Or.inr (e121.symm.trans c124))] | rw [if_neg (fun z => z.elim c116 (fun z => c124 (e121.trans z))), e137, e135, e132])
      · refine kr_aload_n h dX0_suggest_127 rfl 1 rfl ?_
        refine kr_bipush (v := 16) h dX0_suggest_128 (by decide) ?_
        refine kr_iload h dX0_suggest_130 0 rfl ?_
        refine kr_i0 h (kc_rS h (c_kindOf l D cI cZ cJ v109) mlX0_137 ysX0_kindOf dX0_suggest_132 rfl rfl ⟨by dsimp only; omega, by dsimp only; omega⟩ ⟨Nat.le_of_ble_eq_true rfl, Nat.le_of_ble_eq_true rfl⟩ (Nat.le_of_ble_eq_true rfl) [] rfl rfl) (fun v132 e132 => ?_)
        refine kr_imul h dX0_suggest_135 (fun v135 e135 => ?_)
        refine kr_iload_n h dX0_suggest_136 rfl 3 rfl ?_
        refine kr_iadd h dX0_suggest_137 (fun v137 e137 => ?_)
        refine kr_vA h (kc_rV h (c_addNote l D cI cZ cJ q (xAsk x d v104 s v n) v137) mlX0_190 yvX0_addNote dX0_suggest_138 rfl rfl ⟨by dsimp only; omega, by dsimp only; omega⟩ ⟨Nat.le_of_ble_eq_true rfl, Nat.le_of_ble_eq_true rfl⟩ (Nat.le_of_ble_eq_true rfl) [0, 1, 2, 3, 4, 5, 6, 7, 8, 9, 10, 11] rfl rfl 0 rfl rfl rfl) ?_
        refine kr_iload h dX0_suggest_141 0 rfl ?_
        exact kr_iret h hr hlk dX0_suggest_143 (by rw [xSug_13 (e5.symm.trans q6), ← e104]; exact e109) (by rw [xAsk_13 (e5.symm.trans q6), ← e104, ← e109]; first | rw [if_pos (Or.inl c116)] | rw [if_pos (Or.inr (e121.symm.trans c124))] | rw [if_neg (fun z => z.elim c116 (fun z => c124 (e121.trans z))), e137, e135, e132])
  · refine kr_tab h 144 dX0_suggest_6 (by rw [ej6, hg6]; decide +kernel) ?_
    have q6 : v5 = 14 := by rw [ej6, hg6]; decide +kernel
    clear hg6 ej6 hj6
    refine kr_aload_n h dX0_suggest_144 rfl 0 rfl ?_
    refine kr_aload_n h dX0_suggest_145 rfl 0 rfl ?_
    refine kr_get h FX0ok 0 1 dX0_suggest_146 flX0_13 rfl rfl (by decide) rfl rfl ?_
    refine kr_iload_n h dX0_suggest_149 rfl 1 rfl ?_
    refine kr_iald h 2 0 dX0_suggest_150 rfl rfl (hp) (fun v150 e150 => ?_)
    refine kr_iload_n h dX0_suggest_151 rfl 2 rfl ?_
    refine kr_iload_n h dX0_suggest_152 rfl 3 rfl ?_
    refine kr_iload h dX0_suggest_153 4 rfl ?_
    refine kr_iA h (kc_rV h (IH x v150 s v n (by rw [e150]; exact hgA (Or.inr (Or.inr (by rw [← e5]; exact q6)))) hs) mlX0_180 yvX0_suggest dX0_suggest_155 rfl rfl ⟨by dsimp only; omega, by dsimp only; omega⟩ ⟨Nat.le_of_ble_eq_true rfl, Nat.le_of_ble_eq_true rfl⟩ (Nat.le_of_ble_eq_true rfl) [0, 1, 2, 3, 4, 5, 6, 7, 8, 9, 10, 11] rfl rfl 0 rfl rfl rfl) (fun v155 e155 => ?_)
    refine kr_istore (lv' := [(6, .int v155), (0, .ref (q 0)), (1, .int p), (2, .int s), (3, .int v), (4, .int n)]) h dX0_suggest_158 (by decide) rfl ?_
    refine kr_iload h dX0_suggest_160 0 rfl ?_
    refine kr_i0 h (kc_rS h (c_kindOf l D cI cZ cJ v155) mlX0_137 ysX0_kindOf dX0_suggest_162 rfl rfl ⟨by dsimp only; omega, by dsimp only; omega⟩ ⟨Nat.le_of_ble_eq_true rfl, Nat.le_of_ble_eq_true rfl⟩ (Nat.le_of_ble_eq_true rfl) [] rfl rfl) (fun v162 e162 => ?_)
    refine kr_aload_n h dX0_suggest_165 rfl 1 rfl ?_
    refine kr_get h FX0ok 0 2 dX0_suggest_166 flX0_16 rfl rfl (by decide) rfl rfl ?_
    refine kr_iload_n h dX0_suggest_169 rfl 2 rfl ?_
    refine kr_iald h 3 0 dX0_suggest_170 rfl rfl (hp) (fun v170 e170 => ?_)
    rw [xAsk_row _ _ _ _ _ _ _ (by decide)] at e170
    refine kr_icmp_ne h 183 dX0_suggest_171 (by decide) (fun c171 => ?_) (fun c171 => ?_)
    · refine kr_iload h dX0_suggest_183 0 rfl ?_
      exact kr_iret h hr hlk dX0_suggest_185 (by rw [xSug_14 (e5.symm.trans q6), ← e150, ← e155, ← e162, ← e170]; first | (rw [if_pos c171]; exact e179) | rw [if_neg c171]) (by rw [xAsk_14 (e5.symm.trans q6), ← e150])
    · refine kr_aload_n h dX0_suggest_174 rfl 1 rfl ?_
      refine kr_get h FX0ok 0 3 dX0_suggest_175 flX0_19 rfl rfl (by decide) rfl rfl ?_
      refine kr_iload_n h dX0_suggest_178 rfl 2 rfl ?_
      refine kr_iald h 4 0 dX0_suggest_179 rfl rfl (hp) (fun v179 e179 => ?_)
      rw [xAsk_row _ _ _ _ _ _ _ (by decide)] at e179
      refine kr_goto h 185 dX0_suggest_180 (by decide) ?_
      exact kr_iret h hr hlk dX0_suggest_185 (by rw [xSug_14 (e5.symm.trans q6), ← e150, ← e155, ← e162, ← e170]; first | (rw [if_pos c171]; exact e179) | rw [if_neg c171]) (by rw [xAsk_14 (e5.symm.trans q6), ← e150])
end
section
theorem c_suggest (l : Launch) (D : va_G) (cI cZ cJ : ClassId) (q : Nat → Nat) : ∀ (d : Nat) (x : xSt) (p s v n : Int32), xG x d p → xSo s → kc_M l yX0_suggest cX0_suggest 7 (some .int) (2 * d + 2) (53 * d + 60) 0 0 [.ref (q 0), .int p, .int s, .int v, .int n] D vwCl (tyL cI cZ cJ) (wX cI cZ q x) (some (.int (xSug x d p s v))) (wX cI cZ q (xAsk x d p s v n)) := by
  intro d
  induction d with
  | zero => intro x p s v n hg; exact hg.elim
  | succ d ih =>
    intro x p s v n hg hs
    have e1 : 2 * (d + 1) + 2 = 2 * d + 4 := by omega
    have e2 : 53 * (d + 1) + 60 = 53 * d + 113 := by omega
    rw [e1, e2]
    exact c_suggest_step l D cI cZ cJ q d ih x p s v n hg hs
theorem c_suggest0 (l : Launch) (D : va_G) (cI cZ cJ : ClassId) (q : Nat → Nat) (d : Nat) (x : xSt) (p s v : Int32) (hg : xG x d p) (hs : xSo s) : kc_M l yX0_suggest cX0_suggest 7 (some .int) (2 * d + 2) (53 * d + 60) 0 0 [.ref (q 0), .int p, .int s, .int v, .int 0] D vwCl (tyL cI cZ cJ) (wX cI cZ q x) (some (.int (xSug x d p s v))) (wX cI cZ q x) := by
  have h := c_suggest l D cI cZ cJ q d x p s v 0 hg hs
  rw [xAsk, if_pos rfl] at h
  exact h
end
section
set_option maxHeartbeats 4000000 in
set_option maxRecDepth 100000 in
theorem c_step (l : Launch) (D : va_G) (cI cZ cJ : ClassId) (q : Nat → Nat) (x : xSt) (p s : Int32) (hp : vp_in p 40) (he : vp_in (xPlace (x.1 1 (tn p)) (x.1 6 (tn p)) s) 96) : kc_M l yX0_step cX0_step 4 none 2 44 0 0 [.ref (q 0), .int p, .int s] D vwCl (tyL cI cZ cJ) (wX cI cZ q x) none (wX cI cZ q (xStp x p s)) := by
  refine kc_start RX0 (by decide +kernel) rfl (Nat.le_of_ble_eq_true rfl) ?_
  intro zp ze zs zm zb zt zc h hr hlk hnm
  refine kr_aload_n h dX0_step_0 rfl 0 rfl ?_
  refine kr_iload_n h dX0_step_1 rfl 1 rfl ?_
  refine kr_iload_n h dX0_step_2 rfl 2 rfl ?_
  refine kr_iA h (kc_rV h (c_nextEntry l D cI cZ cJ q x p s (by assumption) (by assumption)) mlX0_194 yvX0_nextEntry dX0_step_3 rfl rfl ⟨Nat.le_of_ble_eq_true rfl, Nat.le_of_ble_eq_true rfl⟩ ⟨Nat.le_of_ble_eq_true rfl, Nat.le_of_ble_eq_true rfl⟩ (Nat.le_of_ble_eq_true rfl) [0, 1, 2, 3, 4, 5, 6, 7, 8, 9, 10, 11] rfl rfl 0 rfl rfl rfl) (fun v3 e3 => ?_)
  refine kr_istore_n (lv' := [(3, .int v3), (0, .ref (q 0)), (1, .int p), (2, .int s)]) h dX0_step_6 rfl (by decide) rfl ?_
  refine kr_iload_n h dX0_step_7 rfl 0 rfl ?_
  refine kr_iconst (v := 4) h dX0_step_8 (by decide) ?_
  refine kr_i0 h (kc_rS h (c_isBelow l D cI cZ cJ v3 4) mlX0_52 ysX0_isBelow dX0_step_9 rfl rfl ⟨Nat.le_of_ble_eq_true rfl, Nat.le_of_ble_eq_true rfl⟩ ⟨Nat.le_of_ble_eq_true rfl, Nat.le_of_ble_eq_true rfl⟩ (Nat.le_of_ble_eq_true rfl) [] rfl rfl) (fun v9 e9 => ?_)
  refine kr_if_eq h 22 dX0_step_12 (by decide) (fun c12 => ?_) (fun c12 => ?_)
  · exact kr_vret h hr hlk dX0_step_22 (by rw [xStp, ← e3]; first | rw [if_neg (xb_f e9 c12)] | (rw [if_pos (xb_t e9 c12)]; rfl))
  · refine kr_aload_n h dX0_step_15 rfl 1 rfl ?_
    refine kr_get h FX0ok 0 6 dX0_step_16 flX0_29 rfl rfl (by decide) rfl rfl ?_
    refine kr_iload_n h dX0_step_19 rfl 2 rfl ?_
    refine kr_iload_n h dX0_step_20 rfl 0 rfl ?_
    refine kr_iast (ws' := wX cI cZ q (xA x 6 (upd (x.1 6) (tn p) v3))) h 7 0 dX0_step_21 rfl rfl (hp) (wX_r6 cI cZ q x _) ?_
    exact kr_vret h hr hlk dX0_step_22 (by rw [xStp, ← e3]; first | rw [if_neg (xb_f e9 c12)] | (rw [if_pos (xb_t e9 c12)]; rfl))
set_option maxHeartbeats 4000000 in
set_option maxRecDepth 100000 in
theorem c_perform (l : Launch) (D : va_G) (cI cZ cJ : ClassId) (q : Nat → Nat) (x : xSt) (s v : Int32) (hs : vp_in s 8) : kc_M l yX0_perform cX0_perform 3 none 0 0 0 0 [.ref (q 0), .int s, .int v] D vwCl (tyL cI cZ cJ) (wX cI cZ q x) none (wX cI cZ q (xDo x s v)) := by
  refine kc_start RX0 (by decide +kernel) rfl (Nat.le_of_ble_eq_true rfl) ?_
  intro zp ze zs zm zb zt zc h hr hlk hnm
  refine kr_aload_n h dX0_perform_0 rfl 0 rfl ?_
  refine kr_get h FX0ok 0 9 dX0_perform_1 flX0_38 rfl rfl (by decide) rfl rfl ?_
  refine kr_iload_n h dX0_perform_4 rfl 1 rfl ?_
  refine kr_dup2 h dX0_perform_5 rfl rfl ?_
  refine kr_iald h 10 0 dX0_perform_6 rfl rfl (hs) (fun v6 e6 => ?_)
  refine kr_iload_n h dX0_perform_7 rfl 2 rfl ?_
  refine kr_iadd h dX0_perform_8 (fun v8 e8 => ?_)
  refine kr_iast (ws' := wX cI cZ q (xA x 9 (upd (x.1 9) (tn s) v8))) h 10 0 dX0_perform_9 rfl rfl (hs) (wX_r9 cI cZ q x _) ?_
  refine kr_aload_n h dX0_perform_10 rfl 0 rfl ?_
  refine kr_dup h dX0_perform_11 rfl ?_
  refine kr_get h FX0ok 0 13 dX0_perform_12 flX0_156 rfl rfl (by decide) rfl rfl ?_
  refine kr_top h (fun v12 e12 => ?_)
  refine kr_iconst (v := 1) h dX0_perform_15 (by decide) ?_
  refine kr_iadd h dX0_perform_16 (fun v16 e16 => ?_)
  refine kr_put (ws' := wX cI cZ q (xI (xA x 9 (upd (x.1 9) (tn s) v8)) 2 v16)) h FX0ok 0 13 dX0_perform_17 flX0_156 rfl rfl (by decide) rfl rfl rfl rfl (Nat.le_of_ble_eq_true rfl) rfl ?_
  refine kr_aload_n h dX0_perform_20 rfl 0 rfl ?_
  refine kr_aload_n h dX0_perform_21 rfl 0 rfl ?_
  refine kr_get h FX0ok 0 9 dX0_perform_22 flX0_38 rfl rfl (by decide) rfl rfl ?_
  refine kr_iload_n h dX0_perform_25 rfl 1 rfl ?_
  refine kr_iald h 10 0 dX0_perform_26 rfl rfl (hs) (fun v26 e26 => ?_)
  refine kr_put (ws' := wX cI cZ q (xI (xI (xA x 9 (upd (x.1 9) (tn s) v8)) 2 v16) 7 v26)) h FX0ok 0 18 dX0_perform_27 flX0_122 rfl rfl (by decide) rfl rfl rfl rfl (Nat.le_of_ble_eq_true rfl) rfl ?_
  exact kr_vret h hr hlk dX0_perform_30 (congrArg _ (xDo_w (by rw [e8, e6]) (by rw [e16, e12]; rfl) e26))
set_option maxHeartbeats 4000000 in
set_option maxRecDepth 100000 in
theorem c_accept_step (l : Launch) (D : va_G) (cI cZ cJ : ClassId) (q : Nat → Nat) (d : Nat) (IH : ∀ (x : xSt) (p s v : Int32), xG x d p → xSo s → kc_M l yX0_accept cX0_accept 6 none (2 * d + 3) (53 * d + 90) 0 0 [.ref (q 0), .int p, .int s, .int v] D vwCl (tyL cI cZ cJ) (wX cI cZ q x) none (wX cI cZ q (xAcc d x p s v))) (x : xSt) (p s v : Int32) (hg : xG x (d + 1) p) (hs : xSo s) : kc_M l yX0_accept cX0_accept 6 none (2 * d + 5) (53 * d + 143) 0 0 [.ref (q 0), .int p, .int s, .int v] D vwCl (tyL cI cZ cJ) (wX cI cZ q x) none (wX cI cZ q (xAcc (d + 1) x p s v)) := by
  refine kc_start RX0 (by decide +kernel) rfl (Nat.le_of_ble_eq_true rfl) ?_
  intro zp ze zs zm zb zt zc h hr hlk hnm
  obtain ⟨hp, hk, hgA, hgB, hg6⟩ := id hg
  refine kr_aload_n h dX0_accept_0 rfl 0 rfl ?_
  refine kr_get h FX0ok 0 0 dX0_accept_1 flX0_9 rfl rfl (by decide) rfl rfl ?_
  refine kr_iload_n h dX0_accept_4 rfl 1 rfl ?_
  refine kr_iald h 1 0 dX0_accept_5 rfl rfl (hp) (fun v5 e5 => ?_)
  obtain ⟨j6, hj6, ej6⟩ := (show ∃ j : Nat, j < 15 ∧ v5 = nI j by rw [e5]; exact hk)
  have hg6 : (j6 = 0 ∨ j6 = 1 ∨ j6 = 2 ∨ j6 = 4 ∨ j6 = 5 ∨ j6 = 7) ∨ (j6 = 3) ∨ (j6 = 6) ∨ (j6 = 8) ∨ (j6 = 9 ∨ j6 = 10 ∨ j6 = 11) ∨ (j6 = 12) ∨ (j6 = 13 ∨ j6 = 14) := by omega
  rcases hg6 with hg6 | hg6 | hg6 | hg6 | hg6 | hg6 | hg6
  · refine kr_tab h 249 dX0_accept_6 (by rcases hg6 with hg6 | hg6 | hg6 | hg6 | hg6 | hg6 <;> rw [ej6, hg6] <;> decide +kernel) ?_
    have q6 : v5 = 0 ∨ v5 = 1 ∨ v5 = 2 ∨ v5 = 4 ∨ v5 = 5 ∨ v5 = 7 := by rcases hg6 with hg6 | hg6 | hg6 | hg6 | hg6 | hg6 <;> rw [ej6, hg6] <;> decide +kernel
    clear hg6 ej6 hj6
    exact kr_vret h hr hlk dX0_accept_249 (by first | (rw [xAcc_3 (e5.symm.trans q6), ← e73]; first | rw [if_neg (xb_f e75 c78)] | (rw [if_pos (xb_t e75 c78), e89, e87]; rfl)) | (rw [xAcc_k6 (e5.symm.trans q6)]) | (rw [xAcc_8 (e5.symm.trans q6), ← e109, ← e121]) | (rw [xAcc_9 (by rw [← e5]; exact q6), ← e172, ← e136, ← e154, ← e140, ← e143, ← e158, ← e161]; first | (rw [if_neg (xb_f e177 c180), e197, ← e154]) | (rw [if_pos (xb_t e177 c180), e188, ← e136])) | (rw [xAcc_12 (e5.symm.trans q6), ← e211]; first | rw [if_neg (xb_f e213 c216)] | (rw [if_pos (xb_t e213 c216), ← e225])) | (rw [xAcc_13 (by rw [← e5]; exact q6), ← e240]) | (rw [xAcc_0 (by rw [← e5]; exact q6)]))
  · refine kr_tab h 68 dX0_accept_6 (by rw [ej6, hg6]; decide +kernel) ?_
    have q6 : v5 = 3 := by rw [ej6, hg6]; decide +kernel
    clear hg6 ej6 hj6
    refine kr_aload_n h dX0_accept_68 rfl 0 rfl ?_
    refine kr_get h FX0ok 0 1 dX0_accept_69 flX0_13 rfl rfl (by decide) rfl rfl ?_
    refine kr_iload_n h dX0_accept_72 rfl 1 rfl ?_
    refine kr_iald h 2 0 dX0_accept_73 rfl rfl (hp) (fun v73 e73 => ?_)
    refine kr_iload_n h dX0_accept_74 rfl 2 rfl ?_
    refine kr_i0 h (kc_rS h (c_inSet l D cI cZ cJ v73 s) mlX0_187 ysX0_inSet dX0_accept_75 rfl rfl ⟨by dsimp only; omega, by dsimp only; omega⟩ ⟨Nat.le_of_ble_eq_true rfl, Nat.le_of_ble_eq_true rfl⟩ (Nat.le_of_ble_eq_true rfl) [] rfl rfl) (fun v75 e75 => ?_)
    refine kr_if_eq h 249 dX0_accept_78 (by decide) (fun c78 => ?_) (fun c78 => ?_)
    · exact kr_vret h hr hlk dX0_accept_249 (by first | (rw [xAcc_3 (e5.symm.trans q6), ← e73]; first | rw [if_neg (xb_f e75 c78)] | (rw [if_pos (xb_t e75 c78), e89, e87]; rfl)) | (rw [xAcc_k6 (e5.symm.trans q6)]) | (rw [xAcc_8 (e5.symm.trans q6), ← e109, ← e121]) | (rw [xAcc_9 (by rw [← e5]; exact q6), ← e172, ← e136, ← e154, ← e140, ← e143, ← e158, ← e161]; first | (rw [if_neg (xb_f e177 c180), e197, ← e154]) | (rw [if_pos (xb_t e177 c180), e188, ← e136])) | (rw [xAcc_12 (e5.symm.trans q6), ← e211]; first | rw [if_neg (xb_f e213 c216)] | (rw [if_pos (xb_t e213 c216), ← e225])) | (rw [xAcc_13 (by rw [← e5]; exact q6), ← e240]) | (rw [xAcc_0 (by rw [← e5]; exact q6)]))
    · refine kr_aload_n h dX0_accept_81 rfl 0 rfl ?_
      refine kr_get h FX0ok 0 6 dX0_accept_82 flX0_29 rfl rfl (by decide) rfl rfl ?_
      refine kr_iload_n h dX0_accept_85 rfl 1 rfl ?_
      refine kr_dup2 h dX0_accept_86 rfl rfl ?_
      refine kr_iald h 7 0 dX0_accept_87 rfl rfl (hp) (fun v87 e87 => ?_)
      refine kr_iconst (v := 1) h dX0_accept_88 (by decide) ?_
      refine kr_iadd h dX0_accept_89 (fun v89 e89 => ?_)
      refine kr_iast (ws' := wX cI cZ q (xA x 6 (upd (x.1 6) (tn p) v89))) h 7 0 dX0_accept_90 rfl rfl (hp) (wX_r6 cI cZ q x _) ?_
      refine kr_goto h 249 dX0_accept_91 (by decide) ?_
      exact kr_vret h hr hlk dX0_accept_249 (by first | (rw [xAcc_3 (e5.symm.trans q6), ← e73]; first | rw [if_neg (xb_f e75 c78)] | (rw [if_pos (xb_t e75 c78), e89, e87]; rfl)) | (rw [xAcc_k6 (e5.symm.trans q6)]) | (rw [xAcc_8 (e5.symm.trans q6), ← e109, ← e121]) | (rw [xAcc_9 (by rw [← e5]; exact q6), ← e172, ← e136, ← e154, ← e140, ← e143, ← e158, ← e161]; first | (rw [if_neg (xb_f e177 c180), e197, ← e154]) | (rw [if_pos (xb_t e177 c180), e188, ← e136])) | (rw [xAcc_12 (e5.symm.trans q6), ← e211]; first | rw [if_neg (xb_f e213 c216)] | (rw [if_pos (xb_t e213 c216), ← e225])) | (rw [xAcc_13 (by rw [← e5]; exact q6), ← e240]) | (rw [xAcc_0 (by rw [← e5]; exact q6)]))
  · refine kr_tab h 94 dX0_accept_6 (by rw [ej6, hg6]; decide +kernel) ?_
    have q6 : v5 = 6 := by rw [ej6, hg6]; decide +kernel
    clear hg6 ej6 hj6
    refine kr_aload_n h dX0_accept_94 rfl 0 rfl ?_
    refine kr_iload_n h dX0_accept_95 rfl 1 rfl ?_
    refine kr_iload_n h dX0_accept_96 rfl 2 rfl ?_
    refine kr_vA h (kc_rV h (c_step l D cI cZ cJ q x p s (hp) (xG_place (hg6 (by rw [← e5]; exact q6)) hs)) mlX0_213 yvX0_step dX0_accept_97 rfl rfl ⟨by dsimp only; omega, by dsimp only; omega⟩ ⟨Nat.le_of_ble_eq_true rfl, Nat.le_of_ble_eq_true rfl⟩ (Nat.le_of_ble_eq_true rfl) [0, 1, 2, 3, 4, 5, 6, 7, 8, 9, 10, 11] rfl rfl 0 rfl rfl rfl) ?_
    refine kr_goto h 249 dX0_accept_100 (by decide) ?_
    exact kr_vret h hr hlk dX0_accept_249 (by first | (rw [xAcc_3 (e5.symm.trans q6), ← e73]; first | rw [if_neg (xb_f e75 c78)] | (rw [if_pos (xb_t e75 c78), e89, e87]; rfl)) | (rw [xAcc_k6 (e5.symm.trans q6)]) | (rw [xAcc_8 (e5.symm.trans q6), ← e109, ← e121]) | (rw [xAcc_9 (by rw [← e5]; exact q6), ← e172, ← e136, ← e154, ← e140, ← e143, ← e158, ← e161]; first | (rw [if_neg (xb_f e177 c180), e197, ← e154]) | (rw [if_pos (xb_t e177 c180), e188, ← e136])) | (rw [xAcc_12 (e5.symm.trans q6), ← e211]; first | rw [if_neg (xb_f e213 c216)] | (rw [if_pos (xb_t e213 c216), ← e225])) | (rw [xAcc_13 (by rw [← e5]; exact q6), ← e240]) | (rw [xAcc_0 (by rw [← e5]; exact q6)]))
  · refine kr_tab h 103 dX0_accept_6 (by rw [ej6, hg6]; decide +kernel) ?_
    have q6 : v5 = 8 := by rw [ej6, hg6]; decide +kernel
    clear hg6 ej6 hj6
    refine kr_aload_n h dX0_accept_103 rfl 0 rfl ?_
    refine kr_aload_n h dX0_accept_104 rfl 0 rfl ?_
    refine kr_get h FX0ok 0 1 dX0_accept_105 flX0_13 rfl rfl (by decide) rfl rfl ?_
    refine kr_iload_n h dX0_accept_108 rfl 1 rfl ?_
    refine kr_iald h 2 0 dX0_accept_109 rfl rfl (hp) (fun v109 e109 => ?_)
    refine kr_iload_n h dX0_accept_110 rfl 2 rfl ?_
    refine kr_iload_n h dX0_accept_111 rfl 3 rfl ?_
    refine kr_vA h (kc_rV h (IH x v109 s v (by rw [e109]; exact hgA (Or.inl (Or.inl (by rw [← e5]; exact q6)))) hs) mlX0_217 yvX0_accept dX0_accept_112 rfl rfl ⟨by dsimp only; omega, by dsimp only; omega⟩ ⟨Nat.le_of_ble_eq_true rfl, Nat.le_of_ble_eq_true rfl⟩ (Nat.le_of_ble_eq_true rfl) [0, 1, 2, 3, 4, 5, 6, 7, 8, 9, 10, 11] rfl rfl 0 rfl rfl rfl) ?_
    refine kr_aload_n h dX0_accept_115 rfl 0 rfl ?_
    refine kr_aload_n h dX0_accept_116 rfl 0 rfl ?_
    refine kr_get h FX0ok 0 2 dX0_accept_117 flX0_16 rfl rfl (by decide) rfl rfl ?_
    refine kr_iload_n h dX0_accept_120 rfl 1 rfl ?_
    refine kr_iald h 3 0 dX0_accept_121 rfl rfl (hp) (fun v121 e121 => ?_)
    rw [(xAcc_6 _ _ _ _ _).1 2 (by decide)] at e121
    refine kr_iload_n h dX0_accept_122 rfl 2 rfl ?_
    refine kr_iload_n h dX0_accept_123 rfl 3 rfl ?_
    refine kr_vA h (kc_rV h (IH (xAcc d x v109 s v) v121 s v (xG_6 (xAcc_6 _ _ _ _ _) _ _ (by rw [e121]; exact hgB (Or.inl (Or.inl (by rw [← e5]; exact q6))))) hs) mlX0_217 yvX0_accept dX0_accept_124 rfl rfl ⟨by dsimp only; omega, by dsimp only; omega⟩ ⟨Nat.le_of_ble_eq_true rfl, Nat.le_of_ble_eq_true rfl⟩ (Nat.le_of_ble_eq_true rfl) [0, 1, 2, 3, 4, 5, 6, 7, 8, 9, 10, 11] rfl rfl 0 rfl rfl rfl) ?_
    refine kr_goto h 249 dX0_accept_127 (by decide) ?_
    exact kr_vret h hr hlk dX0_accept_249 (by first | (rw [xAcc_3 (e5.symm.trans q6), ← e73]; first | rw [if_neg (xb_f e75 c78)] | (rw [if_pos (xb_t e75 c78), e89, e87]; rfl)) | (rw [xAcc_k6 (e5.symm.trans q6)]) | (rw [xAcc_8 (e5.symm.trans q6), ← e109, ← e121]) | (rw [xAcc_9 (by rw [← e5]; exact q6), ← e172, ← e136, ← e154, ← e140, ← e143, ← e158, ← e161]; first | (rw [if_neg (xb_f e177 c180), e197, ← e154]) | (rw [if_pos (xb_t e177 c180), e188, ← e136])) | (rw [xAcc_12 (e5.symm.trans q6), ← e211]; first | rw [if_neg (xb_f e213 c216)] | (rw [if_pos (xb_t e213 c216), ← e225])) | (rw [xAcc_13 (by rw [← e5]; exact q6), ← e240]) | (rw [xAcc_0 (by rw [← e5]; exact q6)]))
  · refine kr_tab h 130 dX0_accept_6 (by rcases hg6 with hg6 | hg6 | hg6 <;> rw [ej6, hg6] <;> decide +kernel) ?_
    have q6 : v5 = 9 ∨ v5 = 10 ∨ v5 = 11 := by rcases hg6 with hg6 | hg6 | hg6 <;> rw [ej6, hg6] <;> decide +kernel
    clear hg6 ej6 hj6
    refine kr_aload_n h dX0_accept_130 rfl 0 rfl ?_
    refine kr_aload_n h dX0_accept_131 rfl 0 rfl ?_
    refine kr_get h FX0ok 0 1 dX0_accept_132 flX0_13 rfl rfl (by decide) rfl rfl ?_
    refine kr_iload_n h dX0_accept_135 rfl 1 rfl ?_
    refine kr_iald h 2 0 dX0_accept_136 rfl rfl (hp) (fun v136 e136 => ?_)
    refine kr_iload_n h dX0_accept_137 rfl 2 rfl ?_
    refine kr_iload_n h dX0_accept_138 rfl 3 rfl ?_
    refine kr_iconst (v := 0) h dX0_accept_139 (by decide) ?_
    refine kr_iA h (kc_rV h (c_suggest0 l D cI cZ cJ q d x v136 s v (by rw [e136]; exact hgA (Or.inl (Or.inr (by rw [← e5]; exact q6)))) hs) mlX0_180 yvX0_suggest dX0_accept_140 rfl rfl ⟨by dsimp only; omega, by dsimp only; omega⟩ ⟨Nat.le_of_ble_eq_true rfl, Nat.le_of_ble_eq_true rfl⟩ (Nat.le_of_ble_eq_true rfl) [0, 1, 2, 3, 4, 5, 6, 7, 8, 9, 10, 11] rfl rfl 0 rfl rfl rfl) (fun v140 e140 => ?_)
    refine kr_i0 h (kc_rS h (c_kindOf l D cI cZ cJ v140) mlX0_137 ysX0_kindOf dX0_accept_143 rfl rfl ⟨by dsimp only; omega, by dsimp only; omega⟩ ⟨Nat.le_of_ble_eq_true rfl, Nat.le_of_ble_eq_true rfl⟩ (Nat.le_of_ble_eq_true rfl) [] rfl rfl) (fun v143 e143 => ?_)
    refine kr_istore (lv' := [(4, .int v143), (0, .ref (q 0)), (1, .int p), (2, .int s), (3, .int v)]) h dX0_accept_146 (by decide) rfl ?_
    refine kr_aload_n h dX0_accept_148 rfl 1 rfl ?_
    refine kr_aload_n h dX0_accept_149 rfl 1 rfl ?_
    refine kr_get h FX0ok 0 2 dX0_accept_150 flX0_16 rfl rfl (by decide) rfl rfl ?_
    refine kr_iload_n h dX0_accept_153 rfl 2 rfl ?_
    refine kr_iald h 3 0 dX0_accept_154 rfl rfl (hp) (fun v154 e154 => ?_)
    refine kr_iload_n h dX0_accept_155 rfl 3 rfl ?_
    refine kr_iload_n h dX0_accept_156 rfl 4 rfl ?_
    refine kr_iconst (v := 0) h dX0_accept_157 (by decide) ?_
    refine kr_iA h (kc_rV h (c_suggest0 l D cI cZ cJ q d x v154 s v (by rw [e154]; exact hgB (Or.inl (Or.inr (by rw [← e5]; exact q6)))) hs) mlX0_180 yvX0_suggest dX0_accept_158 rfl rfl ⟨by dsimp only; omega, by dsimp only; omega⟩ ⟨Nat.le_of_ble_eq_true rfl, Nat.le_of_ble_eq_true rfl⟩ (Nat.le_of_ble_eq_true rfl) [0, 1, 2, 3, 4, 5, 6, 7, 8, 9, 10, 11] rfl rfl 0 rfl rfl rfl) (fun v158 e158 => ?_)
    refine kr_i0 h (kc_rS h (c_kindOf l D cI cZ cJ v158) mlX0_137 ysX0_kindOf dX0_accept_161 rfl rfl ⟨by dsimp only; omega, by dsimp only; omega⟩ ⟨Nat.le_of_ble_eq_true rfl, Nat.le_of_ble_eq_true rfl⟩ (Nat.le_of_ble_eq_true rfl) [] rfl rfl) (fun v161 e161 => ?_)
    refine kr_istore (lv' := [(5, .int v161), (4, .int v143), (0, .ref (q 0)), (1, .int p), (2, .int s), (3, .int v)]) h dX0_accept_164 (by decide) rfl ?_
    refine kr_aload_n h dX0_accept_166 rfl 2 rfl ?_
    refine kr_aload_n h dX0_accept_167 rfl 2 rfl ?_
    refine kr_get h FX0ok 0 0 dX0_accept_168 flX0_9 rfl rfl (by decide) rfl rfl ?_
    refine kr_iload_n h dX0_accept_171 rfl 3 rfl ?_
    refine kr_iald h 1 0 dX0_accept_172 rfl rfl (hp) (fun v172 e172 => ?_)
    refine kr_iload h dX0_accept_173 1 rfl ?_
    refine kr_iload h dX0_accept_175 0 rfl ?_
    refine kr_i0 h (kc_rS h (c_takesFirst l D cI cZ cJ v172 v143 v161) mlX0_203 ysX0_takesFirst dX0_accept_177 rfl rfl ⟨by dsimp only; omega, by dsimp only; omega⟩ ⟨Nat.le_of_ble_eq_true rfl, Nat.le_of_ble_eq_true rfl⟩ (Nat.le_of_ble_eq_true rfl) [] rfl rfl) (fun v177 e177 => ?_)
    refine kr_if_eq h 192 dX0_accept_180 (by decide) (fun c180 => ?_) (fun c180 => ?_)
    · refine kr_aload_n h dX0_accept_192 rfl 2 rfl ?_
      refine kr_get h FX0ok 0 2 dX0_accept_193 flX0_16 rfl rfl (by decide) rfl rfl ?_
      refine kr_iload_n h dX0_accept_196 rfl 3 rfl ?_
      refine kr_iald h 3 0 dX0_accept_197 rfl rfl (hp) (fun v197 e197 => ?_)
      refine kr_iload_n h dX0_accept_198 rfl 4 rfl ?_
      refine kr_iload_n h dX0_accept_199 rfl 5 rfl ?_
      refine kr_vA h (kc_rV h (IH x _ s v (by first | (rw [e188]; exact hgA (Or.inl (Or.inr (by rw [← e5]; exact q6)))) | (rw [e197]; exact hgB (Or.inl (Or.inr (by rw [← e5]; exact q6))))) hs) mlX0_217 yvX0_accept dX0_accept_200 rfl rfl ⟨by dsimp only; omega, by dsimp only; omega⟩ ⟨Nat.le_of_ble_eq_true rfl, Nat.le_of_ble_eq_true rfl⟩ (Nat.le_of_ble_eq_true rfl) [0, 1, 2, 3, 4, 5, 6, 7, 8, 9, 10, 11] rfl rfl 0 rfl rfl rfl) ?_
      refine kr_goto h 249 dX0_accept_203 (by decide) ?_
      exact kr_vret h hr hlk dX0_accept_249 (by first | (rw [xAcc_3 (e5.symm.trans q6), ← e73]; first | rw [if_neg (xb_f e75 c78)] | (rw [if_pos (xb_t e75 c78), e89, e87]; rfl)) | (rw [xAcc_k6 (e5.symm.trans q6)]) | (rw [xAcc_8 (e5.symm.trans q6), ← e109, ← e121]) | (rw [xAcc_9 (by rw [← e5]; exact q6), ← e172, ← e136, ← e154, ← e140, ← e143, ← e158, ← e161]; first | (rw [if_neg (xb_f e177 c180), e197, ← e154]) | (rw [if_pos (xb_t e177 c180), e188, ← e136])) | (rw [xAcc_12 (e5.symm.trans q6), ← e211]; first | rw [if_neg (xb_f e213 c216)] | (rw [if_pos (xb_t e213 c216), ← e225])) | (rw [xAcc_13 (by rw [← e5]; exact q6), ← e240]) | (rw [xAcc_0 (by rw [← e5]; exact q6)]))
    · refine kr_aload_n h dX0_accept_183 rfl 2 rfl ?_
      refine kr_get h FX0ok 0 1 dX0_accept_184 flX0_13 rfl rfl (by decide) rfl rfl ?_
      refine kr_iload_n h dX0_accept_187 rfl 3 rfl ?_
      refine kr_iald h 2 0 dX0_accept_188 rfl rfl (hp) (fun v188 e188 => ?_)
      refine kr_goto h 198 dX0_accept_189 (by decide) ?_
      refine kr_iload_n h dX0_accept_198 rfl 4 rfl ?_
      refine kr_iload_n h dX0_accept_199 rfl 5 rfl ?_
      refine kr_vA h (kc_rV h (IH x _ s v (by first | (rw [e188]; exact hgA (Or.inl (Or.inr (by rw [← e5]; exact q6)))) | (rw [e197]; exact hgB (Or.inl (Or.inr (by rw [← e5]; exact q6))))) hs) mlX0_217 yvX0_accept dX0_accept_200 rfl rfl ⟨by dsimp only; omega, by dsimp only; omega⟩ ⟨Nat.le_of_ble_eq_true rfl, Nat.le_of_ble_eq_true rfl⟩ (Nat.le_of_ble_eq_true rfl) [0, 1, 2, 3, 4, 5, 6, 7, 8, 9, 10, 11] rfl rfl 0 rfl rfl rfl) ?_
      refine kr_goto h 249 dX0_accept_203 (by decide) ?_
      exact kr_vret h hr hlk dX0_accept_249 (by first | (rw [xAcc_3 (e5.symm.trans q6), ← e73]; first | rw [if_neg (xb_f e75 c78)] | (rw [if_pos (xb_t e75 c78), e89, e87]; rfl)) | (rw [xAcc_k6 (e5.symm.trans q6)]) | (rw [xAcc_8 (e5.symm.trans q6), ← e109, ← e121]) | (rw [xAcc_9 (by rw [← e5]; exact q6), ← e172, ← e136, ← e154, ← e140, ← e143, ← e158, ← e161]; first | (rw [if_neg (xb_f e177 c180), e197, ← e154]) | (rw [if_pos (xb_t e177 c180), e188, ← e136])) | (rw [xAcc_12 (e5.symm.trans q6), ← e211]; first | rw [if_neg (xb_f e213 c216)] | (rw [if_pos (xb_t e213 c216), ← e225])) | (rw [xAcc_13 (by rw [← e5]; exact q6), ← e240]) | (rw [xAcc_0 (by rw [← e5]; exact q6)]))
  · refine kr_tab h 206 dX0_accept_6 (by rw [ej6, hg6]; decide +kernel) ?_
    have q6 : v5 = 12 := by rw [ej6, hg6]; decide +kernel
    clear hg6 ej6 hj6
    refine kr_aload_n h dX0_accept_206 rfl 0 rfl ?_
    refine kr_get h FX0ok 0 1 dX0_accept_207 flX0_13 rfl rfl (by decide) rfl rfl ?_
    refine kr_iload_n h dX0_accept_210 rfl 1 rfl ?_
    refine kr_iald h 2 0 dX0_accept_211 rfl rfl (hp) (fun v211 e211 => ?_)
    refine kr_iload_n h dX0_accept_212 rfl 2 rfl ?_
    refine kr_i0 h (kc_rS h (c_inSet l D cI cZ cJ v211 s) mlX0_187 ysX0_inSet dX0_accept_213 rfl rfl ⟨by dsimp only; omega, by dsimp only; omega⟩ ⟨Nat.le_of_ble_eq_true rfl, Nat.le_of_ble_eq_true rfl⟩ (Nat.le_of_ble_eq_true rfl) [] rfl rfl) (fun v213 e213 => ?_)
    refine kr_if_eq h 249 dX0_accept_216 (by decide) (fun c216 => ?_) (fun c216 => ?_)
    · exact kr_vret h hr hlk dX0_accept_249 (by first | (rw [xAcc_3 (e5.symm.trans q6), ← e73]; first | rw [if_neg (xb_f e75 c78)] | (rw [if_pos (xb_t e75 c78), e89, e87]; rfl)) | (rw [xAcc_k6 (e5.symm.trans q6)]) | (rw [xAcc_8 (e5.symm.trans q6), ← e109, ← e121]) | (rw [xAcc_9 (by rw [← e5]; exact q6), ← e172, ← e136, ← e154, ← e140, ← e143, ← e158, ← e161]; first | (rw [if_neg (xb_f e177 c180), e197, ← e154]) | (rw [if_pos (xb_t e177 c180), e188, ← e136])) | (rw [xAcc_12 (e5.symm.trans q6), ← e211]; first | rw [if_neg (xb_f e213 c216)] | (rw [if_pos (xb_t e213 c216), ← e225])) | (rw [xAcc_13 (by rw [← e5]; exact q6), ← e240]) | (rw [xAcc_0 (by rw [← e5]; exact q6)]))
    · refine kr_aload_n h dX0_accept_219 rfl 0 rfl ?_
      refine kr_aload_n h dX0_accept_220 rfl 0 rfl ?_
      refine kr_get h FX0ok 0 2 dX0_accept_221 flX0_16 rfl rfl (by decide) rfl rfl ?_
      refine kr_iload_n h dX0_accept_224 rfl 1 rfl ?_
      refine kr_iald h 3 0 dX0_accept_225 rfl rfl (hp) (fun v225 e225 => ?_)
      refine kr_iload_n h dX0_accept_226 rfl 2 rfl ?_
      refine kr_iload_n h dX0_accept_227 rfl 3 rfl ?_
      refine kr_vA h (kc_rV h (IH x v225 s v (by rw [e225]; exact hgB (Or.inr (by rw [← e5]; exact q6))) hs) mlX0_217 yvX0_accept dX0_accept_228 rfl rfl ⟨by dsimp only; omega, by dsimp only; omega⟩ ⟨Nat.le_of_ble_eq_true rfl, Nat.le_of_ble_eq_true rfl⟩ (Nat.le_of_ble_eq_true rfl) [0, 1, 2, 3, 4, 5, 6, 7, 8, 9, 10, 11] rfl rfl 0 rfl rfl rfl) ?_
      refine kr_goto h 249 dX0_accept_231 (by decide) ?_
      exact kr_vret h hr hlk dX0_accept_249 (by first | (rw [xAcc_3 (e5.symm.trans q6), ← e73]; first | rw [if_neg (xb_f e75 c78)] | (rw [if_pos (xb_t e75 c78), e89, e87]; rfl)) | (rw [xAcc_k6 (e5.symm.trans q6)]) | (rw [xAcc_8 (e5.symm.trans q6), ← e109, ← e121]) | (rw [xAcc_9 (by rw [← e5]; exact q6), ← e172, ← e136, ← e154, ← e140, ← e143, ← e158, ← e161]; first | (rw [if_neg (xb_f e177 c180), e197, ← e154]) | (rw [if_pos (xb_t e177 c180), e188, ← e136])) | (rw [xAcc_12 (e5.symm.trans q6), ← e211]; first | rw [if_neg (xb_f e213 c216)] | (rw [if_pos (xb_t e213 c216), ← e225])) | (rw [xAcc_13 (by rw [← e5]; exact q6), ← e240]) | (rw [xAcc_0 (by rw [← e5]; exact q6)]))
  · refine kr_tab h 234 dX0_accept_6 (by rcases hg6 with hg6 | hg6 <;> rw [ej6, hg6] <;> decide +kernel) ?_
    have q6 : v5 = 13 ∨ v5 = 14 := by rcases hg6 with hg6 | hg6 <;> rw [ej6, hg6] <;> decide +kernel
    clear hg6 ej6 hj6
    refine kr_aload_n h dX0_accept_234 rfl 0 rfl ?_
    refine kr_aload_n h dX0_accept_235 rfl 0 rfl ?_
    refine kr_get h FX0ok 0 1 dX0_accept_236 flX0_13 rfl rfl (by decide) rfl rfl ?_
    refine kr_iload_n h dX0_accept_239 rfl 1 rfl ?_
    refine kr_iald h 2 0 dX0_accept_240 rfl rfl (hp) (fun v240 e240 => ?_)
    refine kr_iload_n h dX0_accept_241 rfl 2 rfl ?_
    refine kr_iload_n h dX0_accept_242 rfl 3 rfl ?_
    refine kr_vA h (kc_rV h (IH x v240 s v (by rw [e240]; exact hgA (Or.inr (by rw [← e5]; exact q6))) hs) mlX0_217 yvX0_accept dX0_accept_243 rfl rfl ⟨by dsimp only; omega, by dsimp only; omega⟩ ⟨Nat.le_of_ble_eq_true rfl, Nat.le_of_ble_eq_true rfl⟩ (Nat.le_of_ble_eq_true rfl) [0, 1, 2, 3, 4, 5, 6, 7, 8, 9, 10, 11] rfl rfl 0 rfl rfl rfl) ?_
    refine kr_goto h 249 dX0_accept_246 (by decide) ?_
    exact kr_vret h hr hlk dX0_accept_249 (by first | (rw [xAcc_3 (e5.symm.trans q6), ← e73]; first | rw [if_neg (xb_f e75 c78)] | (rw [if_pos (xb_t e75 c78), e89, e87]; rfl)) | (rw [xAcc_k6 (e5.symm.trans q6)]) | (rw [xAcc_8 (e5.symm.trans q6), ← e109, ← e121]) | (rw [xAcc_9 (by rw [← e5]; exact q6), ← e172, ← e136, ← e154, ← e140, ← e143, ← e158, ← e161]; first | (rw [if_neg (xb_f e177 c180), e197, ← e154]) | (rw [if_pos (xb_t e177 c180), e188, ← e136])) | (rw [xAcc_12 (e5.symm.trans q6), ← e211]; first | rw [if_neg (xb_f e213 c216)] | (rw [if_pos (xb_t e213 c216), ← e225])) | (rw [xAcc_13 (by rw [← e5]; exact q6), ← e240]) | (rw [xAcc_0 (by rw [← e5]; exact q6)]))
end
section
theorem c_accept (l : Launch) (D : va_G) (cI cZ cJ : ClassId) (q : Nat → Nat) : ∀ (d : Nat) (x : xSt) (p s v : Int32), xG x d p → xSo s → kc_M l yX0_accept cX0_accept 6 none (2 * d + 3) (53 * d + 90) 0 0 [.ref (q 0), .int p, .int s, .int v] D vwCl (tyL cI cZ cJ) (wX cI cZ q x) none (wX cI cZ q (xAcc d x p s v)) := by
  intro d
  induction d with
  | zero => intro x p s v hg; exact hg.elim
  | succ d ih =>
    intro x p s v hg hs
    have e1 : 2 * (d + 1) + 3 = 2 * d + 5 := by omega
    have e2 : 53 * (d + 1) + 90 = 53 * d + 143 := by omega
    rw [e1, e2]
    exact c_accept_step l D cI cZ cJ q d ih x p s v hg hs
end
section
set_option maxHeartbeats 4000000 in
set_option maxRecDepth 100000 in
theorem c_suggestNow (l : Launch) (D : va_G) (cI cZ cJ : ClassId) (q : Nat → Nat) (x : xSt) (s v : Int32) (hi : xInst x) (hs : xSo s) : kc_M l yX0_suggestNow cX0_suggestNow 3 (some .int) 17 457 0 0 [.ref (q 0), .int s, .int v] D vwCl (tyL cI cZ cJ) (wX cI cZ q x) (some (.int (xNow x s v))) (wX cI cZ q (x)) := by
  refine kc_start RX0 (by decide +kernel) rfl (Nat.le_of_ble_eq_true rfl) ?_
  intro zp ze zs zm zb zt zc h hr hlk hnm
  refine kr_aload_n h dX0_suggestNow_0 rfl 0 rfl ?_
  refine kr_get h FX0ok 0 16 dX0_suggestNow_1 flX0_44 rfl rfl (by decide) rfl rfl ?_
  refine kr_top h (fun v1 e1 => ?_)
  refine kr_iconst (v := (-1)) h dX0_suggestNow_4 (by decide) ?_
  refine kr_icmp_ne h 12 dX0_suggestNow_5 (by decide) (fun c5 => ?_) (fun c5 => ?_)
  · refine kr_aload_n h dX0_suggestNow_12 rfl 0 rfl ?_
    refine kr_aload_n h dX0_suggestNow_13 rfl 0 rfl ?_
    refine kr_get h FX0ok 0 16 dX0_suggestNow_14 flX0_44 rfl rfl (by decide) rfl rfl ?_
    refine kr_top h (fun v14 e14 => ?_)
    refine kr_iload_n h dX0_suggestNow_17 rfl 1 rfl ?_
    refine kr_iload_n h dX0_suggestNow_18 rfl 2 rfl ?_
    refine kr_iconst (v := 0) h dX0_suggestNow_19 (by decide) ?_
    refine kr_iA h (kc_rV h (c_suggest0 l D cI cZ cJ q 7 x v14 s v (by rw [e14]; exact hi.resolve_left (fun z => c5 (e1.trans z))) hs) mlX0_180 yvX0_suggest dX0_suggestNow_20 rfl rfl ⟨Nat.le_of_ble_eq_true rfl, Nat.le_of_ble_eq_true rfl⟩ ⟨Nat.le_of_ble_eq_true rfl, Nat.le_of_ble_eq_true rfl⟩ (Nat.le_of_ble_eq_true rfl) [0, 1, 2, 3, 4, 5, 6, 7, 8, 9, 10, 11] rfl rfl 0 rfl rfl rfl) (fun v20 e20 => ?_)
    exact kr_iret h hr hlk dX0_suggestNow_23 (by first | (rw [xNow, if_pos (e1.symm.trans c5)]) | (rw [xNow, if_neg (fun z => c5 (e1.trans z)), e20, e14])) (rfl)
  · refine kr_iconst (v := 0) h dX0_suggestNow_8 (by decide) ?_
    refine kr_goto h 23 dX0_suggestNow_9 (by decide) ?_
    exact kr_iret h hr hlk dX0_suggestNow_23 (by first | (rw [xNow, if_pos (e1.symm.trans c5)]) | (rw [xNow, if_neg (fun z => c5 (e1.trans z)), e20, e14])) (rfl)
set_option maxHeartbeats 4000000 in
set_option maxRecDepth 100000 in
theorem c_follow (l : Launch) (D : va_G) (cI cZ cJ : ClassId) (q : Nat → Nat) (x : xSt) (g s v : Int32) (hi : (xKind g = 3 ∨ xKind g = 4 ∨ xKind g = 5) ∨ xG x 7 (x.2 5)) (hsrc : xKind g = 3 → vp_in (xSrc g) 40) (hs : xSo s) : kc_M l yX0_follow cX0_follow 4 (some .int) 18 486 0 0 [.ref (q 0), .int g, .int s, .int v] D vwCl (tyL cI cZ cJ) (wX cI cZ q x) (some (.int ((xFol x g s v).1))) (wX cI cZ q ((xFol x g s v).2)) := by
  refine kc_start RX0 (by decide +kernel) rfl (Nat.le_of_ble_eq_true rfl) ?_
  intro zp ze zs zm zb zt zc h hr hlk hnm
  refine kr_iload_n h dX0_follow_0 rfl 1 rfl ?_
  refine kr_i0 h (kc_rS h (c_kindOf l D cI cZ cJ g) mlX0_137 ysX0_kindOf dX0_follow_1 rfl rfl ⟨Nat.le_of_ble_eq_true rfl, Nat.le_of_ble_eq_true rfl⟩ ⟨Nat.le_of_ble_eq_true rfl, Nat.le_of_ble_eq_true rfl⟩ (Nat.le_of_ble_eq_true rfl) [] rfl rfl) (fun v1 e1 => ?_)
  rcases kc_sw v1 3 6 with hj4 | ⟨j4, hl4, hj4, ej4⟩
  · refine kr_tabOut h 61 dX0_follow_4 (by omega) (by decide) ?_
    have n4_3 : ¬ v1 = 3 := fun z => by rw [z] at hj4; revert hj4; decide +kernel
    have n4_4 : ¬ v1 = 4 := fun z => by rw [z] at hj4; revert hj4; decide +kernel
    have n4_5 : ¬ v1 = 5 := fun z => by rw [z] at hj4; revert hj4; decide +kernel
    refine kr_aload_n h dX0_follow_61 rfl 0 rfl ?_
    refine kr_aload_n h dX0_follow_62 rfl 0 rfl ?_
    refine kr_get h FX0ok 0 16 dX0_follow_63 flX0_44 rfl rfl (by decide) rfl rfl ?_
    refine kr_top h (fun v63 e63 => ?_)
    refine kr_iload_n h dX0_follow_66 rfl 2 rfl ?_
    refine kr_iload_n h dX0_follow_67 rfl 3 rfl ?_
    refine kr_vA h (kc_rV h (c_accept l D cI cZ cJ q 7 x v63 s v (by rw [e63]; exact hi.resolve_left (fun z => by rw [← e1] at z; rcases z with z | z | z <;> first | exact n4_3 z | exact n4_4 z | exact n4_5 z)) hs) mlX0_217 yvX0_accept dX0_follow_68 rfl rfl ⟨Nat.le_of_ble_eq_true rfl, Nat.le_of_ble_eq_true rfl⟩ ⟨Nat.le_of_ble_eq_true rfl, Nat.le_of_ble_eq_true rfl⟩ (Nat.le_of_ble_eq_true rfl) [0, 1, 2, 3, 4, 5, 6, 7, 8, 9, 10, 11] rfl rfl 0 rfl rfl rfl) ?_
    refine kr_aload_n h dX0_follow_71 rfl 0 rfl ?_
    refine kr_iload_n h dX0_follow_72 rfl 2 rfl ?_
    refine kr_iload_n h dX0_follow_73 rfl 3 rfl ?_
    refine kr_vA h (kc_rV h (c_perform l D cI cZ cJ q (xAcc 7 x v63 s v) s v (xSo_in hs)) mlX0_221 yvX0_perform dX0_follow_74 rfl rfl ⟨Nat.le_of_ble_eq_true rfl, Nat.le_of_ble_eq_true rfl⟩ ⟨Nat.le_of_ble_eq_true rfl, Nat.le_of_ble_eq_true rfl⟩ (Nat.le_of_ble_eq_true rfl) [0, 1, 2, 3, 4, 5, 6, 7, 8, 9, 10, 11] rfl rfl 0 rfl rfl rfl) ?_
    refine kr_iconst (v := 0) h dX0_follow_77 (by decide) ?_
    exact kr_iret h hr hlk dX0_follow_78 (by rw [xFol, if_neg (fun z => n4_3 (e1.trans z)), if_neg (fun z => n4_4 (e1.trans z)), if_neg (fun z => n4_5 (e1.trans z))]) (by rw [xFol, if_neg (fun z => n4_3 (e1.trans z)), if_neg (fun z => n4_4 (e1.trans z)), if_neg (fun z => n4_5 (e1.trans z)), e63])
  · have hg4 : (j4 = 3) ∨ (j4 = 4) ∨ (j4 = 5) := by omega
    rcases hg4 with hg4 | hg4 | hg4
    · refine kr_tab h 32 dX0_follow_4 (by rw [ej4, hg4]; decide +kernel) ?_
      have q4 : v1 = 3 := by rw [ej4, hg4]; decide +kernel
      clear hg4 ej4 hj4
      refine kr_aload_n h dX0_follow_32 rfl 0 rfl ?_
      refine kr_aload_n h dX0_follow_33 rfl 0 rfl ?_
      refine kr_get h FX0ok 0 2 dX0_follow_34 flX0_16 rfl rfl (by decide) rfl rfl ?_
      refine kr_iload_n h dX0_follow_37 rfl 1 rfl ?_
      refine kr_i0 h (kc_rS h (c_sourceOf l D cI cZ cJ g) mlX0_145 ysX0_sourceOf dX0_follow_38 rfl rfl ⟨Nat.le_of_ble_eq_true rfl, Nat.le_of_ble_eq_true rfl⟩ ⟨Nat.le_of_ble_eq_true rfl, Nat.le_of_ble_eq_true rfl⟩ (Nat.le_of_ble_eq_true rfl) [] rfl rfl) (fun v38 e38 => ?_)
      refine kr_iald h 3 0 dX0_follow_41 rfl rfl (by rw [e38]; exact hsrc (e1.symm.trans q4)) (fun v41 e41 => ?_)
      refine kr_put (ws' := wX cI cZ q (xI x 7 v41)) h FX0ok 0 18 dX0_follow_42 flX0_122 rfl rfl (by decide) rfl rfl rfl rfl (Nat.le_of_ble_eq_true rfl) rfl ?_
      refine kr_aload_n h dX0_follow_45 rfl 0 rfl ?_
      refine kr_dup h dX0_follow_46 rfl ?_
      refine kr_get h FX0ok 0 14 dX0_follow_47 flX0_159 rfl rfl (by decide) rfl rfl ?_
      refine kr_top h (fun v47 e47 => ?_)
      refine kr_iconst (v := 1) h dX0_follow_50 (by decide) ?_
      refine kr_iadd h dX0_follow_51 (fun v51 e51 => ?_)
      refine kr_put (ws' := wX cI cZ q (xI (xI x 7 v41) 3 v51)) h FX0ok 0 14 dX0_follow_52 flX0_159 rfl rfl (by decide) rfl rfl rfl rfl (Nat.le_of_ble_eq_true rfl) rfl ?_
      refine kr_iconst (v := 0) h dX0_follow_55 (by decide) ?_
      exact kr_iret h hr hlk dX0_follow_56 (by rw [xFol, if_pos (e1.symm.trans q4)]) (by rw [xFol, if_pos (e1.symm.trans q4), e51, e47, e41, e38]; rfl)
    · refine kr_tab h 57 dX0_follow_4 (by rw [ej4, hg4]; decide +kernel) ?_
      have q4 : v1 = 4 := by rw [ej4, hg4]; decide +kernel
      clear hg4 ej4 hj4
      refine kr_iconst (v := 1) h dX0_follow_57 (by decide) ?_
      exact kr_iret h hr hlk dX0_follow_58 (by rw [xFol, if_neg (fun z => by rw [← e1, q4] at z; exact absurd z (by decide)), if_pos (e1.symm.trans q4)]) (by rw [xFol, if_neg (fun z => by rw [← e1, q4] at z; exact absurd z (by decide)), if_pos (e1.symm.trans q4)])
    · refine kr_tab h 59 dX0_follow_4 (by rw [ej4, hg4]; decide +kernel) ?_
      have q4 : v1 = 5 := by rw [ej4, hg4]; decide +kernel
      clear hg4 ej4 hj4
      refine kr_iconst (v := 2) h dX0_follow_59 (by decide) ?_
      exact kr_iret h hr hlk dX0_follow_60 (by rw [xFol, if_neg (fun z => by rw [← e1, q4] at z; exact absurd z (by decide)), if_neg (fun z => by rw [← e1, q4] at z; exact absurd z (by decide)), if_pos (e1.symm.trans q4)]) (by rw [xFol, if_neg (fun z => by rw [← e1, q4] at z; exact absurd z (by decide)), if_neg (fun z => by rw [← e1, q4] at z; exact absurd z (by decide)), if_pos (e1.symm.trans q4)])
end
section
set_option maxHeartbeats 4000000 in
set_option maxRecDepth 100000 in
theorem lp_forget {p : Program} {l : Launch} {e : Env} {R : Room} {s : State} {m : MethodId} {args : Array Value} {below : List Frame} {meth : Method} {c : Code} {Q : State → Prop} {D : va_G} {cI cZ cJ : ClassId} {q : Nat → Nat} {A : Nat → Prop} {u : Nat × Nat} (h : kc_C p s m args c cX0_forgetSpent 2 RX0 D vwCl (tyL cI cZ cJ) A) (x : xSt) (kk : ∀ i : Int32, kc_W p l e R s m args below meth c D vwCl A 2 Q 21 [(1, .int i), (0, .ref (q 0))] [] (wX cI cZ q (xA x 7 (xZ (x.1 7)))) u) : ∀ (n k : Nat) (i : Int32) (f : Nat → Int32), i = nI k → k ≤ 40 → 40 - k < n → (∀ j, j < k → f j = 0) → (∀ j, k ≤ j → f j = x.1 7 j) → kc_W p l e R s m args below meth c D vwCl A 2 Q 2 [(1, .int i), (0, .ref (q 0))] [] (wX cI cZ q (xA x 7 f)) u := by
  intro n
  induction n with
  | zero => intro k i f _ _ h; exact absurd h (by omega)
  | succ n ih =>
    intro k i f hi hk hn h0 h1
    refine kr_iload_n h dX0_forgetSpent_2 rfl 0 rfl ?_
    refine kr_bipush (v := 40) h dX0_forgetSpent_3 (by decide) ?_
    refine kr_icmp_ge h 21 dX0_forgetSpent_5 (by decide) (fun c5 => ?_) (fun c5 => ?_)
    · have hk40 : k = 40 := by
        rcases Nat.lt_or_ge k 40 with z | z
        · exact absurd (by rw [hi] at c5; exact c5) (nI_ge z (by decide))
        · omega
      have hf : f = xZ (x.1 7) := funext fun j => by
        unfold xZ
        split
        · exact h0 j (by omega)
        · exact h1 j (by omega)
      rw [hf]
      exact kk i
    · have hk40 : k < 40 := by
        rcases Nat.lt_or_ge k 40 with z | z
        · exact z
        · exact absurd (by rw [hi]; exact nI_le z (by omega)) c5
      refine kr_aload_n h dX0_forgetSpent_8 rfl 1 rfl ?_
      refine kr_get h FX0ok 0 7 dX0_forgetSpent_9 flX0_32 rfl rfl (by decide) rfl rfl ?_
      refine kr_iload_n h dX0_forgetSpent_12 rfl 0 rfl ?_
      refine kr_iconst (v := 0) h dX0_forgetSpent_13 (by decide) ?_
      refine kr_zastN (ws' := wX cI cZ q (xA (xA x 7 f) 7 (upd ((xA x 7 f).1 7) (tn i) 0))) h 8 1 kc_n0 dX0_forgetSpent_14 rfl rfl (by rw [hi]; exact vp_in_nI (by omega) (by decide)) (wX_r7 cI cZ q (xA x 7 f) _) ?_
      obtain ⟨v15, e15⟩ : ∃ z : Int32, z = i + 1 := ⟨_, rfl⟩
      refine kr_iinc (lv' := [(1, .int v15), (0, .ref (q 0))]) (k := 0) h dX0_forgetSpent_15 rfl (by rw [e15]; rfl) (by decide) rfl ?_
      refine kr_goto h 2 dX0_forgetSpent_18 (by decide) ?_
      exact ih (k + 1) v15 _ (by rw [e15, hi]; exact nI_1 k) (by omega) (by omega) (xFill hi (by omega) h0 h1).1 (xFill hi (by omega) h0 h1).2
set_option maxHeartbeats 4000000 in
set_option maxRecDepth 100000 in
theorem c_forgetSpent (l : Launch) (D : va_G) (cI cZ cJ : ClassId) (q : Nat → Nat) (x : xSt) : kc_M l yX0_forgetSpent cX0_forgetSpent 2 none 0 0 0 0 [.ref (q 0)] D vwCl (tyL cI cZ cJ) (wX cI cZ q x) none (wX cI cZ q (xA x 7 (xZ (x.1 7)))) := by
  refine kc_start RX0 (by decide +kernel) rfl (Nat.le_of_ble_eq_true rfl) ?_
  intro zp ze zs zm zb zt zc h hr hlk hnm
  refine kr_iconst (v := 0) h dX0_forgetSpent_0 (by decide) ?_
  refine kr_istore_n (lv' := [(1, .int 0), (0, .ref (q 0))]) h dX0_forgetSpent_1 rfl (by decide) rfl ?_
  refine lp_forget h x (fun i => ?_) 41 0 0 (x.1 7) rfl (by omega) (by omega) (fun j hj => absurd hj (by omega)) (fun j _ => rfl)
  exact kr_vret h hr hlk dX0_forgetSpent_21 rfl
end
section
set_option maxHeartbeats 4000000 in
set_option maxRecDepth 100000 in
theorem lp_act {p : Program} {l : Launch} {e : Env} {R : Room} {s : State} {m : MethodId} {args : Array Value} {below : List Frame} {meth : Method} {c : Code} {D : va_G} {cI cZ cJ : ClassId} {q : Nat → Nat} {w0 w2 : va_W} {r s1 v1 dp : Int32} {fr lo : Nat} {rc : Option (xSt → Int32 → Int32 → Int32 × xSt)} (h : kc_C p s m args c cX0_actAtDepth 8 RX0 D vwCl (tyL cI cZ cJ) (va_A w0 s.heap.size)) (hr : meth.sig.returnType = some .int) (hlk : meth.locks = false) (hRc : R.cells = 0 ∧ R.slots = 0) (hR0 : 19 ≤ R.frames ∧ 509 ≤ R.locals) (hR1 : rc = none ∨ (fr + 1 ≤ R.frames ∧ 27 + lo ≤ R.locals)) (hs : xSo s1)
    (hrc : (¬ dp < 5 ∧ rc = none) ∨ (dp < 5 ∧ ∃ f, rc = some f ∧ (∀ x s v, xKeep x (f x s v).2) ∧ (∀ (x : xSt) (s2 v2 dq : Int32), dq = dp + 1 → xInst x → xV x → xSo s2 → kc_M l yX0_actAtDepth cX0_actAtDepth 8 (some .int) fr lo 0 0 [.ref (q 0), .int s2, .int v2, .int dq] D vwCl (tyL cI cZ cJ) (wX cI cZ q x) (some (.int (f x s2 v2).1)) (wX cI cZ q (f x s2 v2).2)))) : ∀ (n k : Nat) (i : Int32) (x : xSt), i = nI k → k + n = 41 → ¬ x.2 5 = -1 → xInst x → xV x → r = (xLoop rc n x s1 v1).1 → w2 = wX cI cZ q (xLoop rc n x s1 v1).2 → kc_W p l e R s m args below meth c D vwCl (va_A w0 s.heap.size) 8 (MQ below (kc_Post (some (.int r)) D vwCl w0 w2 s.heap.size) args s 0 0 (va_A w0 s.heap.size)) 19 [(4, .int i), (0, .ref (q 0)), (1, .int s1), (2, .int v1), (3, .int dp)] [] (wX cI cZ q x) (0, 0) := by
  intro n
  induction n with
  | zero =>
    intro k i x hi hk hne hin hV hq hw
    refine kr_iload h dX0_actAtDepth_19 0 rfl ?_
    refine kr_bipush (v := 40) h dX0_actAtDepth_21 (by decide) ?_
    refine kr_icmp_gt h 116 dX0_actAtDepth_23 (by decide) (fun c23 => ?_) (fun c23 => ?_)
    · refine kr_iconst (v := 3) h dX0_actAtDepth_116 (by decide) ?_
      exact kr_iret h hr hlk dX0_actAtDepth_117 (by rw [hq]; rfl) (by rw [hw]; rfl)
    · exact absurd (by rw [hi, show k = 41 by omega]; decide) c23
  | succ n ih =>
    intro k i x hi hk hne hin hV hq hw
    have hg7 : xG x 7 (x.2 5) := hin.resolve_left hne
    have hRL : (0 : Nat) + 0 ≤ R.cells ∧ (0 : Nat) + 0 ≤ R.slots := ⟨Nat.zero_le _, Nat.zero_le _⟩
    refine kr_iload h dX0_actAtDepth_19 0 rfl ?_
    refine kr_bipush (v := 40) h dX0_actAtDepth_21 (by decide) ?_
    refine kr_icmp_gt h 116 dX0_actAtDepth_23 (by decide) (fun c23 => ?_) (fun c23 => ?_)
    · exact absurd c23 (by rw [hi]; exact nI_nlt (show k ≤ 40 by omega) (by decide))
    · refine kr_aload_n h dX0_actAtDepth_26 rfl 1 rfl ?_
      refine kr_aload_n h dX0_actAtDepth_27 rfl 1 rfl ?_
      refine kr_get h FX0ok 0 16 dX0_actAtDepth_28 flX0_44 rfl rfl (by decide) rfl rfl ?_
      refine kr_top h (fun v28 e28 => ?_)
      refine kr_iload_n h dX0_actAtDepth_31 rfl 2 rfl ?_
      refine kr_iload_n h dX0_actAtDepth_32 rfl 3 rfl ?_
      refine kr_iconst (v := 1) h dX0_actAtDepth_33 (by decide) ?_
      refine kr_iA h (kc_rV h (c_suggest l D cI cZ cJ q 7 x v28 s1 v1 1 (by rw [e28]; exact hg7) hs) mlX0_180 yvX0_suggest dX0_actAtDepth_34 rfl rfl ⟨Nat.le_trans (by decide) hR0.1, Nat.le_trans (by decide) hR0.2⟩ hRL (Nat.le_of_ble_eq_true rfl) [0, 1, 2, 3, 4, 5, 6, 7, 8, 9, 10, 11] rfl rfl 0 rfl rfl rfl) (fun v34 e34 => ?_)
      have hIs : xIs x v34 := by rw [e34, e28]; exact xSug_is hV s1 v1 7 _ hg7
      refine kr_istore (lv' := [(5, .int v34), (4, .int i), (0, .ref (q 0)), (1, .int s1), (2, .int v1), (3, .int dp)]) h dX0_actAtDepth_37 (by decide) rfl ?_
      refine kr_iload h dX0_actAtDepth_39 0 rfl ?_
      refine kr_i0 h (kc_rS h (c_kindOf l D cI cZ cJ v34) mlX0_137 ysX0_kindOf dX0_actAtDepth_41 rfl rfl ⟨Nat.le_trans (by decide) hR0.1, Nat.le_trans (by decide) hR0.2⟩ hRL (Nat.le_of_ble_eq_true rfl) [] rfl rfl) (fun v41 e41 => ?_)
      refine kr_iconst (v := 2) h dX0_actAtDepth_44 (by decide) ?_
      refine kr_icmp_eq h 57 dX0_actAtDepth_45 (by decide) (fun c45 => ?_) (fun c45 => ?_)
      · refine kr_iload_n h dX0_actAtDepth_57 rfl 5 rfl ?_
        refine kr_iconst (v := 5) h dX0_actAtDepth_58 (by decide) ?_
        refine kr_icmp_lt h 64 dX0_actAtDepth_59 (by decide) (fun c59 => ?_) (fun c59 => ?_)
        · obtain ⟨hdp, f, hrs, hkf, hrec⟩ := hrc.resolve_left (fun z => z.1 c59)
          obtain ⟨j, hj, ej, hjj⟩ := xIs_src hIs (Or.inl (e41.symm.trans c45))
          refine kr_iload h dX0_actAtDepth_64 0 rfl ?_
          refine kr_i0 h (kc_rS h (c_sourceOf l D cI cZ cJ v34) mlX0_145 ysX0_sourceOf dX0_actAtDepth_66 rfl rfl ⟨Nat.le_trans (by decide) hR0.1, Nat.le_trans (by decide) hR0.2⟩ hRL (Nat.le_of_ble_eq_true rfl) [] rfl rfl) (fun v66 e66 => ?_)
          have h66 : vp_in v66 40 := by rw [e66, ej]; exact vp_in_nI hj (by decide)
          refine kr_istore (lv' := [(6, .int v66), (5, .int v34), (4, .int i), (0, .ref (q 0)), (1, .int s1), (2, .int v1), (3, .int dp)]) h dX0_actAtDepth_69 (by decide) rfl ?_
          refine kr_aload_n h dX0_actAtDepth_71 rfl 3 rfl ?_
          refine kr_get h FX0ok 0 7 dX0_actAtDepth_72 flX0_32 rfl rfl (by decide) rfl rfl ?_
          refine kr_iload h dX0_actAtDepth_75 0 rfl ?_
          refine kr_iconst (v := 1) h dX0_actAtDepth_77 (by decide) ?_
          refine kr_zastN (ws' := wX cI cZ q (xA (xAsk x 7 v28 s1 v1 1) 7 (upd ((xAsk x 7 v28 s1 v1 1).1 7) (tn v66) 1))) h 8 1 kc_n1 dX0_actAtDepth_78 rfl rfl (h66) (wX_r7 cI cZ q (xAsk x 7 v28 s1 v1 1) _) ?_
          refine kr_aload_n h dX0_actAtDepth_79 rfl 3 rfl ?_
          refine kr_aload_n h dX0_actAtDepth_80 rfl 3 rfl ?_
          refine kr_get h FX0ok 0 2 dX0_actAtDepth_81 flX0_16 rfl rfl (by decide) rfl rfl ?_
          refine kr_iload h dX0_actAtDepth_84 0 rfl ?_
          refine kr_iald h 3 0 dX0_actAtDepth_86 rfl rfl (h66) (fun v86 e86 => ?_)
          refine kr_aload_n h dX0_actAtDepth_87 rfl 3 rfl ?_
          refine kr_get h FX0ok 0 3 dX0_actAtDepth_88 flX0_19 rfl rfl (by decide) rfl rfl ?_
          refine kr_iload h dX0_actAtDepth_91 0 rfl ?_
          refine kr_iald h 4 0 dX0_actAtDepth_93 rfl rfl (h66) (fun v93 e93 => ?_)
          refine kr_iload_n h dX0_actAtDepth_94 rfl 6 rfl ?_
          refine kr_iconst (v := 1) h dX0_actAtDepth_95 (by decide) ?_
          refine kr_iadd h dX0_actAtDepth_96 (fun v96 e96 => ?_)
          have hkX0 : xKeep x (xA (xAsk x 7 v28 s1 v1 1) 7 (upd ((xAsk x 7 v28 s1 v1 1).1 7) (tn v66) 1)) := (xKeep_ask _ _ _ _ _ _).tr (by rw [e66]; exact xKeep_sp _ _)
          have hb86 : v86 = x.1 2 j := by rw [e86, hkX0.1 2 (by decide) (by decide) (by decide) (by decide), e66, ej]; exact congrArg _ (nI_clamp (by omega))
          have hso : xSo v86 := by
            rw [hb86]
            rcases hjj with ⟨-, -, z, -⟩ | ⟨z, -⟩
            · exact (hV j hj).1 z
            · rw [← e41, c45] at z; exact absurd z (by decide)
          have hkX : xKeep x (f (xA (xAsk x 7 v28 s1 v1 1) 7 (upd ((xAsk x 7 v28 s1 v1 1).1 7) (tn v66) 1)) v86 v93).2 := hkX0.tr (hkf _ _ _)
          have hun : xLoop rc (n + 1) x s1 v1 = if ¬ (f (xA (xAsk x 7 v28 s1 v1 1) 7 (upd ((xAsk x 7 v28 s1 v1 1).1 7) (tn v66) 1)) v86 v93).1 = 0 then f (xA (xAsk x 7 v28 s1 v1 1) 7 (upd ((xAsk x 7 v28 s1 v1 1).1 7) (tn v66) 1)) v86 v93 else xLoop rc n (f (xA (xAsk x 7 v28 s1 v1 1) 7 (upd ((xAsk x 7 v28 s1 v1 1).1 7) (tn v66) 1)) v86 v93).2 s1 v1 := by
            rw [hrs]
            exact xLoop_some e28 e34 (e41.symm.trans c45) e66 rfl e86 e93
          refine kr_iA h (kc_rV h (hrec (xA (xAsk x 7 v28 s1 v1 1) 7 (upd ((xAsk x 7 v28 s1 v1 1).1 7) (tn v66) 1)) v86 v93 v96 e96 (xKeep_i hkX0 hin) (xKeep_v hkX0 hV) hso) mlX0_116 yvX0_actAtDepth dX0_actAtDepth_97 rfl rfl ⟨(hR1.resolve_left (by rw [hrs]; exact fun z => nomatch z)).1, by have := (hR1.resolve_left (by rw [hrs]; exact fun z => nomatch z)).2; omega⟩ hRL (Nat.le_of_ble_eq_true rfl) [0, 1, 2, 3, 4, 5, 6, 7, 8, 9, 10, 11] rfl rfl 0 rfl rfl rfl) (fun v97 e97 => ?_)
          refine kr_istore (lv' := [(7, .int v97), (6, .int v66), (5, .int v34), (4, .int i), (0, .ref (q 0)), (1, .int s1), (2, .int v1), (3, .int dp)]) h dX0_actAtDepth_100 (by decide) rfl ?_
          refine kr_iload h dX0_actAtDepth_102 0 rfl ?_
          refine kr_if_eq h 110 dX0_actAtDepth_104 (by decide) (fun c104 => ?_) (fun c104 => ?_)
          · obtain ⟨v110, e110⟩ : ∃ z : Int32, z = i + 1 := ⟨_, rfl⟩
            refine kr_iinc (lv' := [(4, .int v110), (7, .int v97), (6, .int v66), (5, .int v34), (0, .ref (q 0)), (1, .int s1), (2, .int v1), (3, .int dp)]) (k := 3) h dX0_actAtDepth_110 rfl (by rw [e110]; rfl) (by decide) rfl ?_
            refine kr_goto h 19 dX0_actAtDepth_113 (by decide) ?_
            refine kr_lv (lv' := [(4, .int v110), (0, .ref (q 0)), (1, .int s1), (2, .int v1), (3, .int dp)]) [0, 4, 5, 6, 7] rfl ?_
            refine ih (k + 1) v110 _ (by rw [e110, hi]; exact nI_1 k) (by omega) (by rw [hkX.2.1]; exact hne) (xKeep_i hkX hin) (xKeep_v hkX hV) ?_ ?_
            · rw [hq, hun, if_neg (fun z => z (e97.symm.trans c104))]
            · rw [hw, hun, if_neg (fun z => z (e97.symm.trans c104))]
          · refine kr_iload h dX0_actAtDepth_107 0 rfl ?_
            exact kr_iret h hr hlk dX0_actAtDepth_109 (by rw [hq, hun, if_pos (fun z => c104 (e97.trans z))]; exact e97) (by rw [hw, hun, if_pos (fun z => c104 (e97.trans z))])
        · refine kr_iconst (v := 3) h dX0_actAtDepth_62 (by decide) ?_
          exact kr_iret h hr hlk dX0_actAtDepth_63 (by rw [hq, (hrc.resolve_right (fun z => c59 z.1)).2, xLoop_none e28 e34 (e41.symm.trans c45)]) (by rw [hw, (hrc.resolve_right (fun z => c59 z.1)).2, xLoop_none e28 e34 (e41.symm.trans c45)])
      · refine kr_aload_n h dX0_actAtDepth_48 rfl 2 rfl ?_
        refine kr_iload h dX0_actAtDepth_49 0 rfl ?_
        refine kr_iload_n h dX0_actAtDepth_51 rfl 3 rfl ?_
        refine kr_iload_n h dX0_actAtDepth_52 rfl 4 rfl ?_
        refine kr_iA h (kc_rV h (c_follow l D cI cZ cJ q (xAsk x 7 v28 s1 v1 1) v34 s1 v1 (Or.inr (by rw [xAsk_int _ _ _ _ _ _ _ (by decide)]; exact (xG_eq (fun k hk => xAsk_row _ _ _ _ _ _ _ hk) _ _).mpr hg7)) (fun z => by obtain ⟨i, hi, e, -⟩ := xIs_src hIs (Or.inr z); rw [e]; exact vp_in_nI hi (by decide)) hs) mlX0_224 yvX0_follow dX0_actAtDepth_53 rfl rfl ⟨Nat.le_trans (by decide) hR0.1, Nat.le_trans (by decide) hR0.2⟩ hRL (Nat.le_of_ble_eq_true rfl) [0, 1, 2, 3, 4, 5, 6, 7, 8, 9, 10, 11] rfl rfl 0 rfl rfl rfl) (fun v53 e53 => ?_)
        exact kr_iret h hr hlk dX0_actAtDepth_56 (by rw [hq, xLoop_fol e28 e34 (fun z => c45 (e41.trans z))]; exact e53) (by rw [hw, xLoop_fol e28 e34 (fun z => c45 (e41.trans z))])
end
section
set_option maxHeartbeats 4000000 in
set_option maxRecDepth 100000 in
theorem c_act_gen (l : Launch) (D : va_G) (cI cZ cJ : ClassId) (q : Nat → Nat) (x : xSt) (sx vx dp : Int32) (F L fr lo : Nat) (rc : Option (xSt → Int32 → Int32 → Int32 × xSt)) (hF : 19 ≤ F ∧ 509 ≤ L) (hF1 : rc = none ∨ (fr + 1 ≤ F ∧ 27 + lo ≤ L)) (hin : xInst x) (hV : xV x) (hs : xSo sx)
    (hrc : (¬ dp < 5 ∧ rc = none) ∨ (dp < 5 ∧ ∃ f, rc = some f ∧ (∀ x s v, xKeep x (f x s v).2) ∧ (∀ (x : xSt) (s2 v2 dq : Int32), dq = dp + 1 → xInst x → xV x → xSo s2 → kc_M l yX0_actAtDepth cX0_actAtDepth 8 (some .int) fr lo 0 0 [.ref (q 0), .int s2, .int v2, .int dq] D vwCl (tyL cI cZ cJ) (wX cI cZ q x) (some (.int (f x s2 v2).1)) (wX cI cZ q (f x s2 v2).2)))) : kc_M l yX0_actAtDepth cX0_actAtDepth 8 (some .int) F L 0 0 [.ref (q 0), .int sx, .int vx, .int dp] D vwCl (tyL cI cZ cJ) (wX cI cZ q x) (some (.int (if x.2 5 = -1 then (0, xDo x sx vx) else xLoop rc 41 x sx vx : Int32 × xSt).1)) (wX cI cZ q (if x.2 5 = -1 then (0, xDo x sx vx) else xLoop rc 41 x sx vx : Int32 × xSt).2) := by
  refine kc_start RX0 (by decide +kernel) rfl (Nat.le_of_ble_eq_true rfl) ?_
  intro zp ze zs zm zb zt zc h hr hlk hnm
  refine kr_aload_n h dX0_actAtDepth_0 rfl 0 rfl ?_
  refine kr_get h FX0ok 0 16 dX0_actAtDepth_1 flX0_44 rfl rfl (by decide) rfl rfl ?_
  refine kr_top h (fun v1 e1 => ?_)
  refine kr_iconst (v := (-1)) h dX0_actAtDepth_4 (by decide) ?_
  refine kr_icmp_ne h 16 dX0_actAtDepth_5 (by decide) (fun c5 => ?_) (fun c5 => ?_)
  · refine kr_iconst (v := 0) h dX0_actAtDepth_16 (by decide) ?_
    refine kr_istore (lv' := [(4, .int 0), (0, .ref (q 0)), (1, .int sx), (2, .int vx), (3, .int dp)]) h dX0_actAtDepth_17 (by decide) rfl ?_
    have hne : ¬ x.2 5 = -1 := fun z => c5 (e1.trans z)
    exact lp_act h hr hlk ⟨rfl, rfl⟩ hF hF1 hs hrc 41 0 0 x rfl (by omega) hne hin hV (by rw [if_neg hne]) (by rw [if_neg hne])
  · refine kr_aload_n h dX0_actAtDepth_8 rfl 0 rfl ?_
    refine kr_iload_n h dX0_actAtDepth_9 rfl 1 rfl ?_
    refine kr_iload_n h dX0_actAtDepth_10 rfl 2 rfl ?_
    refine kr_vA h (kc_rV h (c_perform l D cI cZ cJ q x sx vx (xSo_in hs)) mlX0_221 yvX0_perform dX0_actAtDepth_11 rfl rfl ⟨Nat.le_trans (by decide) hF.1, Nat.le_trans (by decide) hF.2⟩ ⟨Nat.le_of_ble_eq_true rfl, Nat.le_of_ble_eq_true rfl⟩ (Nat.le_of_ble_eq_true rfl) [0, 1, 2, 3, 4, 5, 6, 7, 8, 9, 10, 11] rfl rfl 0 rfl rfl rfl) ?_
    refine kr_iconst (v := 0) h dX0_actAtDepth_14 (by decide) ?_
    exact kr_iret h hr hlk dX0_actAtDepth_15 (by rw [if_pos (e1.symm.trans c5)]) (by rw [if_pos (e1.symm.trans c5)])
theorem c_actAtDepth (l : Launch) (D : va_G) (cI cZ cJ : ClassId) (q : Nat → Nat) : ∀ (dd : Nat) (x : xSt) (sx vx dp : Int32), dd ≤ 4 → dp = nI (5 - dd) → xInst x → xV x → xSo sx → kc_M l yX0_actAtDepth cX0_actAtDepth 8 (some .int) (dd + 19) (27 * dd + 509) 0 0 [.ref (q 0), .int sx, .int vx, .int dp] D vwCl (tyL cI cZ cJ) (wX cI cZ q x) (some (.int (xAct dd x sx vx).1)) (wX cI cZ q (xAct dd x sx vx).2) := by
  intro dd
  induction dd with
  | zero =>
    intro x sx vx dp _ hdp hin hV hs
    exact c_act_gen l D cI cZ cJ q x sx vx dp (0 + 19) (27 * 0 + 509) 0 0 none ⟨by omega, by omega⟩ (Or.inl rfl) hin hV hs (Or.inl ⟨by rw [hdp]; decide, rfl⟩)
  | succ dd ih =>
    intro x sx vx dp hd hdp hin hV hs
    refine c_act_gen l D cI cZ cJ q x sx vx dp (dd + 1 + 19) (27 * (dd + 1) + 509) (dd + 19) (27 * dd + 509) (some (xAct dd)) ⟨by omega, by omega⟩ (Or.inr ⟨by omega, by omega⟩) hin hV hs (Or.inr ⟨?_, xAct dd, rfl, xKeep_act dd, ?_⟩)
    · rw [hdp]; exact nI_lt (show 5 - (dd + 1) < 5 by omega) (by decide)
    · intro x2 s2 v2 dq hdq hin2 hV2 hs2
      refine ih x2 s2 v2 dq (by omega) ?_ hin2 hV2 hs2
      rw [hdq, hdp, nI_1, show 5 - (dd + 1) + 1 = 5 - dd by omega]
end
section
set_option maxHeartbeats 4000000 in
set_option maxRecDepth 100000 in
theorem c_isAsSaid (l : Launch) (D : va_G) (cI cZ cJ : ClassId) (q : Nat → Nat) (x : xSt) (k a b c : Int32) : kc_M l yX0_isAsSaid cX0_isAsSaid 5 (some .boolean) 2 42 0 0 [.ref (q 0), .int k, .int a, .int b, .int c] D vwCl (tyL cI cZ cJ) (wX cI cZ q x) (some (.int (xb (pSaid x k a b c)))) (wX cI cZ q (x)) := by
  refine kc_start RX0 (by decide +kernel) rfl (Nat.le_of_ble_eq_true rfl) ?_
  intro zp ze zs zm zb zt zc h hr hlk hnm
  refine kr_iload_n h dX0_isAsSaid_0 rfl 1 rfl ?_
  rcases kc_sw k 0 15 with hj1 | ⟨j1, hl1, hj1, ej1⟩
  · refine kr_tabOut h 211 dX0_isAsSaid_1 (by omega) (by decide) ?_
    have n1_0 : ¬ k = 0 := fun z => by rw [z] at hj1; revert hj1; decide +kernel
    have n1_1 : ¬ k = 1 := fun z => by rw [z] at hj1; revert hj1; decide +kernel
    have n1_2 : ¬ k = 2 := fun z => by rw [z] at hj1; revert hj1; decide +kernel
    have n1_3 : ¬ k = 3 := fun z => by rw [z] at hj1; revert hj1; decide +kernel
    have n1_4 : ¬ k = 4 := fun z => by rw [z] at hj1; revert hj1; decide +kernel
    have n1_5 : ¬ k = 5 := fun z => by rw [z] at hj1; revert hj1; decide +kernel
    have n1_6 : ¬ k = 6 := fun z => by rw [z] at hj1; revert hj1; decide +kernel
    have n1_7 : ¬ k = 7 := fun z => by rw [z] at hj1; revert hj1; decide +kernel
    have n1_8 : ¬ k = 8 := fun z => by rw [z] at hj1; revert hj1; decide +kernel
    have n1_9 : ¬ k = 9 := fun z => by rw [z] at hj1; revert hj1; decide +kernel
    have n1_10 : ¬ k = 10 := fun z => by rw [z] at hj1; revert hj1; decide +kernel
    have n1_11 : ¬ k = 11 := fun z => by rw [z] at hj1; revert hj1; decide +kernel
    have n1_12 : ¬ k = 12 := fun z => by rw [z] at hj1; revert hj1; decide +kernel
    have n1_13 : ¬ k = 13 := fun z => by rw [z] at hj1; revert hj1; decide +kernel
    have n1_14 : ¬ k = 14 := fun z => by rw [z] at hj1; revert hj1; decide +kernel
    refine kr_iconst (v := 0) h dX0_isAsSaid_211 (by decide) ?_
    exact kr_zret h hr hlk dX0_isAsSaid_212 (by first | rfl | exact kc_nb e77 | exact kc_nb e124 | exact kc_nb e173) (xb_0 (fun z => by simp_all [pSaid, pP0, pPair])) (rfl)
  · have hg1 : (j1 = 0 ∨ j1 = 1 ∨ j1 = 2 ∨ j1 = 4 ∨ j1 = 7) ∨ (j1 = 3) ∨ (j1 = 5) ∨ (j1 = 6) ∨ (j1 = 8 ∨ j1 = 9 ∨ j1 = 10 ∨ j1 = 11) ∨ (j1 = 12) ∨ (j1 = 13) ∨ (j1 = 14) := by omega
    rcases hg1 with hg1 | hg1 | hg1 | hg1 | hg1 | hg1 | hg1 | hg1
    · refine kr_tab h 76 dX0_isAsSaid_1 (by rcases hg1 with hg1 | hg1 | hg1 | hg1 | hg1 <;> rw [ej1, hg1] <;> decide +kernel) ?_
      have q1 : k = 0 ∨ k = 1 ∨ k = 2 ∨ k = 4 ∨ k = 7 := by rcases hg1 with hg1 | hg1 | hg1 | hg1 | hg1 <;> rw [ej1, hg1] <;> decide +kernel
      clear hg1 ej1 hj1
      refine kr_iload_n h dX0_isAsSaid_76 rfl 2 rfl ?_
      refine kr_i0 h (kc_rS h (c_isSet l D cI cZ cJ a) mlX0_165 ysX0_isSet dX0_isAsSaid_77 rfl rfl ⟨Nat.le_of_ble_eq_true rfl, Nat.le_of_ble_eq_true rfl⟩ ⟨Nat.le_of_ble_eq_true rfl, Nat.le_of_ble_eq_true rfl⟩ (Nat.le_of_ble_eq_true rfl) [] rfl rfl) (fun v77 e77 => ?_)
      exact kr_zret h hr hlk dX0_isAsSaid_80 (by first | rfl | exact kc_nb e77 | exact kc_nb e124 | exact kc_nb e173) (e77.trans (xb_iff (pSaid_0 q1).symm)) (rfl)
    · refine kr_tab h 81 dX0_isAsSaid_1 (by rw [ej1, hg1]; decide +kernel) ?_
      have q1 : k = 3 := by rw [ej1, hg1]; decide +kernel
      clear hg1 ej1 hj1
      refine kr_iload_n h dX0_isAsSaid_81 rfl 2 rfl ?_
      refine kr_i0 h (kc_rS h (c_isSet l D cI cZ cJ a) mlX0_165 ysX0_isSet dX0_isAsSaid_82 rfl rfl ⟨Nat.le_of_ble_eq_true rfl, Nat.le_of_ble_eq_true rfl⟩ ⟨Nat.le_of_ble_eq_true rfl, Nat.le_of_ble_eq_true rfl⟩ (Nat.le_of_ble_eq_true rfl) [] rfl rfl) (fun v82 e82 => ?_)
      refine kr_if_eq h 101 dX0_isAsSaid_85 (by decide) (fun c85 => ?_) (fun c85 => ?_)
      · refine kr_iconst (v := 0) h dX0_isAsSaid_101 (by decide) ?_
        exact kr_zret h hr hlk dX0_isAsSaid_102 (by first | rfl | exact kc_nb e77 | exact kc_nb e124 | exact kc_nb e173) (by first | exact xb_1 ((pSaid_3 q1).mpr ⟨xb_t e82 c85, xb_t e91 c94⟩) | exact xb_0 (fun z => xb_f e82 c85 ((pSaid_3 q1).mp z).1) | exact xb_0 (fun z => xb_f e91 c94 ((pSaid_3 q1).mp z).2)) (rfl)
      · refine kr_iload_n h dX0_isAsSaid_88 rfl 3 rfl ?_
        refine kr_bipush (v := 100) h dX0_isAsSaid_89 (by decide) ?_
        refine kr_i0 h (kc_rS h (c_isBelow l D cI cZ cJ b 100) mlX0_52 ysX0_isBelow dX0_isAsSaid_91 rfl rfl ⟨Nat.le_of_ble_eq_true rfl, Nat.le_of_ble_eq_true rfl⟩ ⟨Nat.le_of_ble_eq_true rfl, Nat.le_of_ble_eq_true rfl⟩ (Nat.le_of_ble_eq_true rfl) [] rfl rfl) (fun v91 e91 => ?_)
        refine kr_if_eq h 101 dX0_isAsSaid_94 (by decide) (fun c94 => ?_) (fun c94 => ?_)
        · refine kr_iconst (v := 0) h dX0_isAsSaid_101 (by decide) ?_
          exact kr_zret h hr hlk dX0_isAsSaid_102 (by first | rfl | exact kc_nb e77 | exact kc_nb e124 | exact kc_nb e173) (by first | exact xb_1 ((pSaid_3 q1).mpr ⟨xb_t e82 c85, xb_t e91 c94⟩) | exact xb_0 (fun z => xb_f e82 c85 ((pSaid_3 q1).mp z).1) | exact xb_0 (fun z => xb_f e91 c94 ((pSaid_3 q1).mp z).2)) (rfl)
        · refine kr_iconst (v := 1) h dX0_isAsSaid_97 (by decide) ?_
          refine kr_goto h 102 dX0_isAsSaid_98 (by decide) ?_
          exact kr_zret h hr hlk dX0_isAsSaid_102 (by first | rfl | exact kc_nb e77 | exact kc_nb e124 | exact kc_nb e173) (by first | exact xb_1 ((pSaid_3 q1).mpr ⟨xb_t e82 c85, xb_t e91 c94⟩) | exact xb_0 (fun z => xb_f e82 c85 ((pSaid_3 q1).mp z).1) | exact xb_0 (fun z => xb_f e91 c94 ((pSaid_3 q1).mp z).2)) (rfl)
    · refine kr_tab h 103 dX0_isAsSaid_1 (by rw [ej1, hg1]; decide +kernel) ?_
      have q1 : k = 5 := by rw [ej1, hg1]; decide +kernel
      clear hg1 ej1 hj1
      refine kr_iload_n h dX0_isAsSaid_103 rfl 2 rfl ?_
      refine kr_i0 h (kc_rS h (c_isSet l D cI cZ cJ a) mlX0_165 ysX0_isSet dX0_isAsSaid_104 rfl rfl ⟨Nat.le_of_ble_eq_true rfl, Nat.le_of_ble_eq_true rfl⟩ ⟨Nat.le_of_ble_eq_true rfl, Nat.le_of_ble_eq_true rfl⟩ (Nat.le_of_ble_eq_true rfl) [] rfl rfl) (fun v104 e104 => ?_)
      refine kr_if_eq h 121 dX0_isAsSaid_107 (by decide) (fun c107 => ?_) (fun c107 => ?_)
      · refine kr_iconst (v := 0) h dX0_isAsSaid_121 (by decide) ?_
        exact kr_zret h hr hlk dX0_isAsSaid_122 (by first | rfl | exact kc_nb e77 | exact kc_nb e124 | exact kc_nb e173) (by first | exact xb_1 ((pSaid_5 q1).mpr ⟨xb_t e104 c107, xb_t e111 c114⟩) | exact xb_0 (fun z => xb_f e104 c107 ((pSaid_5 q1).mp z).1) | exact xb_0 (fun z => xb_f e111 c114 ((pSaid_5 q1).mp z).2)) (rfl)
      · refine kr_iload_n h dX0_isAsSaid_110 rfl 3 rfl ?_
        refine kr_i0 h (kc_rS h (c_isSort l D cI cZ cJ b) mlX0_56 ysX0_isSort dX0_isAsSaid_111 rfl rfl ⟨Nat.le_of_ble_eq_true rfl, Nat.le_of_ble_eq_true rfl⟩ ⟨Nat.le_of_ble_eq_true rfl, Nat.le_of_ble_eq_true rfl⟩ (Nat.le_of_ble_eq_true rfl) [] rfl rfl) (fun v111 e111 => ?_)
        refine kr_if_eq h 121 dX0_isAsSaid_114 (by decide) (fun c114 => ?_) (fun c114 => ?_)
        · refine kr_iconst (v := 0) h dX0_isAsSaid_121 (by decide) ?_
          exact kr_zret h hr hlk dX0_isAsSaid_122 (by first | rfl | exact kc_nb e77 | exact kc_nb e124 | exact kc_nb e173) (by first | exact xb_1 ((pSaid_5 q1).mpr ⟨xb_t e104 c107, xb_t e111 c114⟩) | exact xb_0 (fun z => xb_f e104 c107 ((pSaid_5 q1).mp z).1) | exact xb_0 (fun z => xb_f e111 c114 ((pSaid_5 q1).mp z).2)) (rfl)
        · refine kr_iconst (v := 1) h dX0_isAsSaid_117 (by decide) ?_
          refine kr_goto h 122 dX0_isAsSaid_118 (by decide) ?_
          exact kr_zret h hr hlk dX0_isAsSaid_122 (by first | rfl | exact kc_nb e77 | exact kc_nb e124 | exact kc_nb e173) (by first | exact xb_1 ((pSaid_5 q1).mpr ⟨xb_t e104 c107, xb_t e111 c114⟩) | exact xb_0 (fun z => xb_f e104 c107 ((pSaid_5 q1).mp z).1) | exact xb_0 (fun z => xb_f e111 c114 ((pSaid_5 q1).mp z).2)) (rfl)
    · refine kr_tab h 123 dX0_isAsSaid_1 (by rw [ej1, hg1]; decide +kernel) ?_
      have q1 : k = 6 := by rw [ej1, hg1]; decide +kernel
      clear hg1 ej1 hj1
      refine kr_iload_n h dX0_isAsSaid_123 rfl 2 rfl ?_
      refine kr_i0 h (kc_rS h (c_isTable l D cI cZ cJ a) mlX0_48 ysX0_isTable dX0_isAsSaid_124 rfl rfl ⟨Nat.le_of_ble_eq_true rfl, Nat.le_of_ble_eq_true rfl⟩ ⟨Nat.le_of_ble_eq_true rfl, Nat.le_of_ble_eq_true rfl⟩ (Nat.le_of_ble_eq_true rfl) [] rfl rfl) (fun v124 e124 => ?_)
      exact kr_zret h hr hlk dX0_isAsSaid_127 (by first | rfl | exact kc_nb e77 | exact kc_nb e124 | exact kc_nb e173) (e124.trans (xb_iff (pSaid_6 q1).symm)) (rfl)
    · refine kr_tab h 128 dX0_isAsSaid_1 (by rcases hg1 with hg1 | hg1 | hg1 | hg1 <;> rw [ej1, hg1] <;> decide +kernel) ?_
      have q1 : k = 8 ∨ k = 9 ∨ k = 10 ∨ k = 11 := by rcases hg1 with hg1 | hg1 | hg1 | hg1 <;> rw [ej1, hg1] <;> decide +kernel
      clear hg1 ej1 hj1
      refine kr_aload_n h dX0_isAsSaid_128 rfl 0 rfl ?_
      refine kr_iload_n h dX0_isAsSaid_129 rfl 2 rfl ?_
      refine kr_iA h (kc_rV h (c_isPolicy l D cI cZ cJ q x a) mlX0_105 yvX0_isPolicy dX0_isAsSaid_130 rfl rfl ⟨Nat.le_of_ble_eq_true rfl, Nat.le_of_ble_eq_true rfl⟩ ⟨Nat.le_of_ble_eq_true rfl, Nat.le_of_ble_eq_true rfl⟩ (Nat.le_of_ble_eq_true rfl) [0, 1, 2, 3, 4, 5, 6, 7, 8, 9, 10, 11] rfl rfl 0 rfl rfl rfl) (fun v130 e130 => ?_)
      refine kr_if_eq h 148 dX0_isAsSaid_133 (by decide) (fun c133 => ?_) (fun c133 => ?_)
      · refine kr_iconst (v := 0) h dX0_isAsSaid_148 (by decide) ?_
        exact kr_zret h hr hlk dX0_isAsSaid_149 (by first | rfl | exact kc_nb e77 | exact kc_nb e124 | exact kc_nb e173) (by first | exact xb_1 ((pSaid_8 q1).mpr ⟨xb_t e130 c133, xb_t e138 c141⟩) | exact xb_0 (fun z => xb_f e130 c133 ((pSaid_8 q1).mp z).1) | exact xb_0 (fun z => xb_f e138 c141 ((pSaid_8 q1).mp z).2)) (rfl)
      · refine kr_aload_n h dX0_isAsSaid_136 rfl 0 rfl ?_
        refine kr_iload_n h dX0_isAsSaid_137 rfl 3 rfl ?_
        refine kr_iA h (kc_rV h (c_isPolicy l D cI cZ cJ q x b) mlX0_105 yvX0_isPolicy dX0_isAsSaid_138 rfl rfl ⟨Nat.le_of_ble_eq_true rfl, Nat.le_of_ble_eq_true rfl⟩ ⟨Nat.le_of_ble_eq_true rfl, Nat.le_of_ble_eq_true rfl⟩ (Nat.le_of_ble_eq_true rfl) [0, 1, 2, 3, 4, 5, 6, 7, 8, 9, 10, 11] rfl rfl 0 rfl rfl rfl) (fun v138 e138 => ?_)
        refine kr_if_eq h 148 dX0_isAsSaid_141 (by decide) (fun c141 => ?_) (fun c141 => ?_)
        · refine kr_iconst (v := 0) h dX0_isAsSaid_148 (by decide) ?_
          exact kr_zret h hr hlk dX0_isAsSaid_149 (by first | rfl | exact kc_nb e77 | exact kc_nb e124 | exact kc_nb e173) (by first | exact xb_1 ((pSaid_8 q1).mpr ⟨xb_t e130 c133, xb_t e138 c141⟩) | exact xb_0 (fun z => xb_f e130 c133 ((pSaid_8 q1).mp z).1) | exact xb_0 (fun z => xb_f e138 c141 ((pSaid_8 q1).mp z).2)) (rfl)
        · refine kr_iconst (v := 1) h dX0_isAsSaid_144 (by decide) ?_
          refine kr_goto h 149 dX0_isAsSaid_145 (by decide) ?_
          exact kr_zret h hr hlk dX0_isAsSaid_149 (by first | rfl | exact kc_nb e77 | exact kc_nb e124 | exact kc_nb e173) (by first | exact xb_1 ((pSaid_8 q1).mpr ⟨xb_t e130 c133, xb_t e138 c141⟩) | exact xb_0 (fun z => xb_f e130 c133 ((pSaid_8 q1).mp z).1) | exact xb_0 (fun z => xb_f e138 c141 ((pSaid_8 q1).mp z).2)) (rfl)
    · refine kr_tab h 150 dX0_isAsSaid_1 (by rw [ej1, hg1]; decide +kernel) ?_
      have q1 : k = 12 := by rw [ej1, hg1]; decide +kernel
      clear hg1 ej1 hj1
      refine kr_iload_n h dX0_isAsSaid_150 rfl 2 rfl ?_
      refine kr_i0 h (kc_rS h (c_isSet l D cI cZ cJ a) mlX0_165 ysX0_isSet dX0_isAsSaid_151 rfl rfl ⟨Nat.le_of_ble_eq_true rfl, Nat.le_of_ble_eq_true rfl⟩ ⟨Nat.le_of_ble_eq_true rfl, Nat.le_of_ble_eq_true rfl⟩ (Nat.le_of_ble_eq_true rfl) [] rfl rfl) (fun v151 e151 => ?_)
      refine kr_if_eq h 169 dX0_isAsSaid_154 (by decide) (fun c154 => ?_) (fun c154 => ?_)
      · refine kr_iconst (v := 0) h dX0_isAsSaid_169 (by decide) ?_
        exact kr_zret h hr hlk dX0_isAsSaid_170 (by first | rfl | exact kc_nb e77 | exact kc_nb e124 | exact kc_nb e173) (by first | exact xb_1 ((pSaid_12 q1).mpr ⟨xb_t e151 c154, xb_t e159 c162⟩) | exact xb_0 (fun z => xb_f e151 c154 ((pSaid_12 q1).mp z).1) | exact xb_0 (fun z => xb_f e159 c162 ((pSaid_12 q1).mp z).2)) (rfl)
      · refine kr_aload_n h dX0_isAsSaid_157 rfl 0 rfl ?_
        refine kr_iload_n h dX0_isAsSaid_158 rfl 3 rfl ?_
        refine kr_iA h (kc_rV h (c_isPolicy l D cI cZ cJ q x b) mlX0_105 yvX0_isPolicy dX0_isAsSaid_159 rfl rfl ⟨Nat.le_of_ble_eq_true rfl, Nat.le_of_ble_eq_true rfl⟩ ⟨Nat.le_of_ble_eq_true rfl, Nat.le_of_ble_eq_true rfl⟩ (Nat.le_of_ble_eq_true rfl) [0, 1, 2, 3, 4, 5, 6, 7, 8, 9, 10, 11] rfl rfl 0 rfl rfl rfl) (fun v159 e159 => ?_)
        refine kr_if_eq h 169 dX0_isAsSaid_162 (by decide) (fun c162 => ?_) (fun c162 => ?_)
        · refine kr_iconst (v := 0) h dX0_isAsSaid_169 (by decide) ?_
          exact kr_zret h hr hlk dX0_isAsSaid_170 (by first | rfl | exact kc_nb e77 | exact kc_nb e124 | exact kc_nb e173) (by first | exact xb_1 ((pSaid_12 q1).mpr ⟨xb_t e151 c154, xb_t e159 c162⟩) | exact xb_0 (fun z => xb_f e151 c154 ((pSaid_12 q1).mp z).1) | exact xb_0 (fun z => xb_f e159 c162 ((pSaid_12 q1).mp z).2)) (rfl)
        · refine kr_iconst (v := 1) h dX0_isAsSaid_165 (by decide) ?_
          refine kr_goto h 170 dX0_isAsSaid_166 (by decide) ?_
          exact kr_zret h hr hlk dX0_isAsSaid_170 (by first | rfl | exact kc_nb e77 | exact kc_nb e124 | exact kc_nb e173) (by first | exact xb_1 ((pSaid_12 q1).mpr ⟨xb_t e151 c154, xb_t e159 c162⟩) | exact xb_0 (fun z => xb_f e151 c154 ((pSaid_12 q1).mp z).1) | exact xb_0 (fun z => xb_f e159 c162 ((pSaid_12 q1).mp z).2)) (rfl)
    · refine kr_tab h 171 dX0_isAsSaid_1 (by rw [ej1, hg1]; decide +kernel) ?_
      have q1 : k = 13 := by rw [ej1, hg1]; decide +kernel
      clear hg1 ej1 hj1
      refine kr_aload_n h dX0_isAsSaid_171 rfl 0 rfl ?_
      refine kr_iload_n h dX0_isAsSaid_172 rfl 2 rfl ?_
      refine kr_iA h (kc_rV h (c_isPolicy l D cI cZ cJ q x a) mlX0_105 yvX0_isPolicy dX0_isAsSaid_173 rfl rfl ⟨Nat.le_of_ble_eq_true rfl, Nat.le_of_ble_eq_true rfl⟩ ⟨Nat.le_of_ble_eq_true rfl, Nat.le_of_ble_eq_true rfl⟩ (Nat.le_of_ble_eq_true rfl) [0, 1, 2, 3, 4, 5, 6, 7, 8, 9, 10, 11] rfl rfl 0 rfl rfl rfl) (fun v173 e173 => ?_)
      exact kr_zret h hr hlk dX0_isAsSaid_176 (by first | rfl | exact kc_nb e77 | exact kc_nb e124 | exact kc_nb e173) (e173.trans (xb_iff (pSaid_13 q1).symm)) (rfl)
    · refine kr_tab h 177 dX0_isAsSaid_1 (by rw [ej1, hg1]; decide +kernel) ?_
      have q1 : k = 14 := by rw [ej1, hg1]; decide +kernel
      clear hg1 ej1 hj1
      refine kr_aload_n h dX0_isAsSaid_177 rfl 0 rfl ?_
      refine kr_iload_n h dX0_isAsSaid_178 rfl 2 rfl ?_
      refine kr_iA h (kc_rV h (c_isPolicy l D cI cZ cJ q x a) mlX0_105 yvX0_isPolicy dX0_isAsSaid_179 rfl rfl ⟨Nat.le_of_ble_eq_true rfl, Nat.le_of_ble_eq_true rfl⟩ ⟨Nat.le_of_ble_eq_true rfl, Nat.le_of_ble_eq_true rfl⟩ (Nat.le_of_ble_eq_true rfl) [0, 1, 2, 3, 4, 5, 6, 7, 8, 9, 10, 11] rfl rfl 0 rfl rfl rfl) (fun v179 e179 => ?_)
      refine kr_if_eq h 209 dX0_isAsSaid_182 (by decide) (fun c182 => ?_) (fun c182 => ?_)
      · refine kr_iconst (v := 0) h dX0_isAsSaid_209 (by decide) ?_
        exact kr_zret h hr hlk dX0_isAsSaid_210 (by first | rfl | exact kc_nb e77 | exact kc_nb e124 | exact kc_nb e173) (by first | exact xb_0 (fun z => xb_f e179 c182 ((pSaid_14 q1).mp z).1) | exact xb_0 (fun z => xb_f e186 c189 ((pSaid_14 q1).mp z).2.1) | exact xb_1 ((pSaid_14 q1).mpr ⟨xb_t e179 c182, xb_t e186 c189, Or.inl c194⟩) | exact xb_1 ((pSaid_14 q1).mpr ⟨xb_t e179 c182, xb_t e186 c189, Or.inr (xb_t e199 c202)⟩) | exact xb_0 (fun z => ((pSaid_14 q1).mp z).2.2.elim c194 (xb_f e199 c202))) (rfl)
      · refine kr_iload_n h dX0_isAsSaid_185 rfl 3 rfl ?_
        refine kr_i0 h (kc_rS h (c_canBeTurned l D cI cZ cJ b) mlX0_168 ysX0_canBeTurned dX0_isAsSaid_186 rfl rfl ⟨Nat.le_of_ble_eq_true rfl, Nat.le_of_ble_eq_true rfl⟩ ⟨Nat.le_of_ble_eq_true rfl, Nat.le_of_ble_eq_true rfl⟩ (Nat.le_of_ble_eq_true rfl) [] rfl rfl) (fun v186 e186 => ?_)
        refine kr_if_eq h 209 dX0_isAsSaid_189 (by decide) (fun c189 => ?_) (fun c189 => ?_)
        · refine kr_iconst (v := 0) h dX0_isAsSaid_209 (by decide) ?_
          exact kr_zret h hr hlk dX0_isAsSaid_210 (by first | rfl | exact kc_nb e77 | exact kc_nb e124 | exact kc_nb e173) (by first | exact xb_0 (fun z => xb_f e179 c182 ((pSaid_14 q1).mp z).1) | exact xb_0 (fun z => xb_f e186 c189 ((pSaid_14 q1).mp z).2.1) | exact xb_1 ((pSaid_14 q1).mpr ⟨xb_t e179 c182, xb_t e186 c189, Or.inl c194⟩) | exact xb_1 ((pSaid_14 q1).mpr ⟨xb_t e179 c182, xb_t e186 c189, Or.inr (xb_t e199 c202)⟩) | exact xb_0 (fun z => ((pSaid_14 q1).mp z).2.2.elim c194 (xb_f e199 c202))) (rfl)
        · refine kr_iload h dX0_isAsSaid_192 4 rfl ?_
          refine kr_if_eq h 205 dX0_isAsSaid_194 (by decide) (fun c194 => ?_) (fun c194 => ?_)
          · refine kr_iconst (v := 1) h dX0_isAsSaid_205 (by decide) ?_
            refine kr_goto h 210 dX0_isAsSaid_206 (by decide) ?_
            exact kr_zret h hr hlk dX0_isAsSaid_210 (by first | rfl | exact kc_nb e77 | exact kc_nb e124 | exact kc_nb e173) (by first | exact xb_0 (fun z => xb_f e179 c182 ((pSaid_14 q1).mp z).1) | exact xb_0 (fun z => xb_f e186 c189 ((pSaid_14 q1).mp z).2.1) | exact xb_1 ((pSaid_14 q1).mpr ⟨xb_t e179 c182, xb_t e186 c189, Or.inl c194⟩) | exact xb_1 ((pSaid_14 q1).mpr ⟨xb_t e179 c182, xb_t e186 c189, Or.inr (xb_t e199 c202)⟩) | exact xb_0 (fun z => ((pSaid_14 q1).mp z).2.2.elim c194 (xb_f e199 c202))) (rfl)
          · refine kr_iload h dX0_isAsSaid_197 4 rfl ?_
            refine kr_i0 h (kc_rS h (c_canBeTurned l D cI cZ cJ c) mlX0_168 ysX0_canBeTurned dX0_isAsSaid_199 rfl rfl ⟨Nat.le_of_ble_eq_true rfl, Nat.le_of_ble_eq_true rfl⟩ ⟨Nat.le_of_ble_eq_true rfl, Nat.le_of_ble_eq_true rfl⟩ (Nat.le_of_ble_eq_true rfl) [] rfl rfl) (fun v199 e199 => ?_)
            refine kr_if_eq h 209 dX0_isAsSaid_202 (by decide) (fun c202 => ?_) (fun c202 => ?_)
            · refine kr_iconst (v := 0) h dX0_isAsSaid_209 (by decide) ?_
              exact kr_zret h hr hlk dX0_isAsSaid_210 (by first | rfl | exact kc_nb e77 | exact kc_nb e124 | exact kc_nb e173) (by first | exact xb_0 (fun z => xb_f e179 c182 ((pSaid_14 q1).mp z).1) | exact xb_0 (fun z => xb_f e186 c189 ((pSaid_14 q1).mp z).2.1) | exact xb_1 ((pSaid_14 q1).mpr ⟨xb_t e179 c182, xb_t e186 c189, Or.inl c194⟩) | exact xb_1 ((pSaid_14 q1).mpr ⟨xb_t e179 c182, xb_t e186 c189, Or.inr (xb_t e199 c202)⟩) | exact xb_0 (fun z => ((pSaid_14 q1).mp z).2.2.elim c194 (xb_f e199 c202))) (rfl)
            · refine kr_iconst (v := 1) h dX0_isAsSaid_205 (by decide) ?_
              refine kr_goto h 210 dX0_isAsSaid_206 (by decide) ?_
              exact kr_zret h hr hlk dX0_isAsSaid_210 (by first | rfl | exact kc_nb e77 | exact kc_nb e124 | exact kc_nb e173) (by first | exact xb_0 (fun z => xb_f e179 c182 ((pSaid_14 q1).mp z).1) | exact xb_0 (fun z => xb_f e186 c189 ((pSaid_14 q1).mp z).2.1) | exact xb_1 ((pSaid_14 q1).mpr ⟨xb_t e179 c182, xb_t e186 c189, Or.inl c194⟩) | exact xb_1 ((pSaid_14 q1).mpr ⟨xb_t e179 c182, xb_t e186 c189, Or.inr (xb_t e199 c202)⟩) | exact xb_0 (fun z => ((pSaid_14 q1).mp z).2.2.elim c194 (xb_f e199 c202))) (rfl)
set_option maxHeartbeats 4000000 in
set_option maxRecDepth 100000 in
theorem c_isTaken (l : Launch) (D : va_G) (cI cZ cJ : ClassId) (q : Nat → Nat) (x : xSt) (k a b : Int32) (ha : pA k → vp_in a 40) (hb : pB k → vp_in b 40) : kc_M l yX0_isTaken cX0_isTaken 4 (some .boolean) 2 40 0 0 [.ref (q 0), .int k, .int a, .int b] D vwCl (tyL cI cZ cJ) (wX cI cZ q x) (some (.int (xb (pTaken x k a b)))) (wX cI cZ q (x)) := by
  refine kc_start RX0 (by decide +kernel) rfl (Nat.le_of_ble_eq_true rfl) ?_
  intro zp ze zs zm zb zt zc h hr hlk hnm
  refine kr_iload_n h dX0_isTaken_0 rfl 1 rfl ?_
  refine kr_i0 h (kc_rS h (c_hasPolicyA l D cI cZ cJ k) mlX0_171 ysX0_hasPolicyA dX0_isTaken_1 rfl rfl ⟨Nat.le_of_ble_eq_true rfl, Nat.le_of_ble_eq_true rfl⟩ ⟨Nat.le_of_ble_eq_true rfl, Nat.le_of_ble_eq_true rfl⟩ (Nat.le_of_ble_eq_true rfl) [] rfl rfl) (fun v1 e1 => ?_)
  refine kr_if_eq h 16 dX0_isTaken_4 (by decide) (fun c4 => ?_) (fun c4 => ?_)
  · refine kr_iload_n h dX0_isTaken_16 rfl 1 rfl ?_
    refine kr_i0 h (kc_rS h (c_hasPolicyB l D cI cZ cJ k) mlX0_174 ysX0_hasPolicyB dX0_isTaken_17 rfl rfl ⟨Nat.le_of_ble_eq_true rfl, Nat.le_of_ble_eq_true rfl⟩ ⟨Nat.le_of_ble_eq_true rfl, Nat.le_of_ble_eq_true rfl⟩ (Nat.le_of_ble_eq_true rfl) [] rfl rfl) (fun v17 e17 => ?_)
    refine kr_if_eq h 32 dX0_isTaken_20 (by decide) (fun c20 => ?_) (fun c20 => ?_)
    · refine kr_iload_n h dX0_isTaken_32 rfl 1 rfl ?_
      refine kr_i0 h (kc_rS h (c_isPair l D cI cZ cJ k) mlX0_162 ysX0_isPair dX0_isTaken_33 rfl rfl ⟨Nat.le_of_ble_eq_true rfl, Nat.le_of_ble_eq_true rfl⟩ ⟨Nat.le_of_ble_eq_true rfl, Nat.le_of_ble_eq_true rfl⟩ (Nat.le_of_ble_eq_true rfl) [] rfl rfl) (fun v33 e33 => ?_)
      refine kr_if_eq h 48 dX0_isTaken_36 (by decide) (fun c36 => ?_) (fun c36 => ?_)
      · refine kr_iconst (v := 0) h dX0_isTaken_48 (by decide) ?_
        exact kr_zret h hr hlk dX0_isTaken_49 (rfl) (by first | exact xb_1 (Or.inl ⟨xb_t e1 c4, fun z => c13 (e12.trans z)⟩) | exact xb_1 (Or.inr (Or.inl ⟨xb_t e17 c20, fun z => c29 (e28.trans z)⟩)) | exact xb_1 (Or.inr (Or.inr ⟨xb_t e33 c36, c41⟩)) | exact xb_0 (fun z => z.elim (fun z => by first | exact xb_f e1 c4 z.1 | exact z.2 (e12.symm.trans c13)) (fun z => z.elim (fun z => by first | exact xb_f e17 c20 z.1 | exact z.2 (e28.symm.trans c29)) (fun z => by first | exact xb_f e33 c36 z.1 | exact c41 z.2)))) (rfl)
      · refine kr_iload_n h dX0_isTaken_39 rfl 2 rfl ?_
        refine kr_iload_n h dX0_isTaken_40 rfl 3 rfl ?_
        refine kr_icmp_ne h 48 dX0_isTaken_41 (by decide) (fun c41 => ?_) (fun c41 => ?_)
        · refine kr_iconst (v := 0) h dX0_isTaken_48 (by decide) ?_
          exact kr_zret h hr hlk dX0_isTaken_49 (rfl) (by first | exact xb_1 (Or.inl ⟨xb_t e1 c4, fun z => c13 (e12.trans z)⟩) | exact xb_1 (Or.inr (Or.inl ⟨xb_t e17 c20, fun z => c29 (e28.trans z)⟩)) | exact xb_1 (Or.inr (Or.inr ⟨xb_t e33 c36, c41⟩)) | exact xb_0 (fun z => z.elim (fun z => by first | exact xb_f e1 c4 z.1 | exact z.2 (e12.symm.trans c13)) (fun z => z.elim (fun z => by first | exact xb_f e17 c20 z.1 | exact z.2 (e28.symm.trans c29)) (fun z => by first | exact xb_f e33 c36 z.1 | exact c41 z.2)))) (rfl)
        · refine kr_iconst (v := 1) h dX0_isTaken_44 (by decide) ?_
          refine kr_goto h 49 dX0_isTaken_45 (by decide) ?_
          exact kr_zret h hr hlk dX0_isTaken_49 (rfl) (by first | exact xb_1 (Or.inl ⟨xb_t e1 c4, fun z => c13 (e12.trans z)⟩) | exact xb_1 (Or.inr (Or.inl ⟨xb_t e17 c20, fun z => c29 (e28.trans z)⟩)) | exact xb_1 (Or.inr (Or.inr ⟨xb_t e33 c36, c41⟩)) | exact xb_0 (fun z => z.elim (fun z => by first | exact xb_f e1 c4 z.1 | exact z.2 (e12.symm.trans c13)) (fun z => z.elim (fun z => by first | exact xb_f e17 c20 z.1 | exact z.2 (e28.symm.trans c29)) (fun z => by first | exact xb_f e33 c36 z.1 | exact c41 z.2)))) (rfl)
    · refine kr_aload_n h dX0_isTaken_23 rfl 0 rfl ?_
      refine kr_get h FX0ok 0 5 dX0_isTaken_24 flX0_25 rfl rfl (by decide) rfl rfl ?_
      refine kr_iload_n h dX0_isTaken_27 rfl 3 rfl ?_
      refine kr_zald h 6 1 dX0_isTaken_28 rfl rfl (hb (xb_t e17 c20)) (fun v28 e28 => ?_)
      refine kr_if_ne h 44 dX0_isTaken_29 (by decide) (fun c29 => ?_) (fun c29 => ?_)
      · refine kr_iconst (v := 1) h dX0_isTaken_44 (by decide) ?_
        refine kr_goto h 49 dX0_isTaken_45 (by decide) ?_
        exact kr_zret h hr hlk dX0_isTaken_49 (rfl) (by first | exact xb_1 (Or.inl ⟨xb_t e1 c4, fun z => c13 (e12.trans z)⟩) | exact xb_1 (Or.inr (Or.inl ⟨xb_t e17 c20, fun z => c29 (e28.trans z)⟩)) | exact xb_1 (Or.inr (Or.inr ⟨xb_t e33 c36, c41⟩)) | exact xb_0 (fun z => z.elim (fun z => by first | exact xb_f e1 c4 z.1 | exact z.2 (e12.symm.trans c13)) (fun z => z.elim (fun z => by first | exact xb_f e17 c20 z.1 | exact z.2 (e28.symm.trans c29)) (fun z => by first | exact xb_f e33 c36 z.1 | exact c41 z.2)))) (rfl)
      · refine kr_iload_n h dX0_isTaken_32 rfl 1 rfl ?_
        refine kr_i0 h (kc_rS h (c_isPair l D cI cZ cJ k) mlX0_162 ysX0_isPair dX0_isTaken_33 rfl rfl ⟨Nat.le_of_ble_eq_true rfl, Nat.le_of_ble_eq_true rfl⟩ ⟨Nat.le_of_ble_eq_true rfl, Nat.le_of_ble_eq_true rfl⟩ (Nat.le_of_ble_eq_true rfl) [] rfl rfl) (fun v33 e33 => ?_)
        refine kr_if_eq h 48 dX0_isTaken_36 (by decide) (fun c36 => ?_) (fun c36 => ?_)
        · refine kr_iconst (v := 0) h dX0_isTaken_48 (by decide) ?_
          exact kr_zret h hr hlk dX0_isTaken_49 (rfl) (by first | exact xb_1 (Or.inl ⟨xb_t e1 c4, fun z => c13 (e12.trans z)⟩) | exact xb_1 (Or.inr (Or.inl ⟨xb_t e17 c20, fun z => c29 (e28.trans z)⟩)) | exact xb_1 (Or.inr (Or.inr ⟨xb_t e33 c36, c41⟩)) | exact xb_0 (fun z => z.elim (fun z => by first | exact xb_f e1 c4 z.1 | exact z.2 (e12.symm.trans c13)) (fun z => z.elim (fun z => by first | exact xb_f e17 c20 z.1 | exact z.2 (e28.symm.trans c29)) (fun z => by first | exact xb_f e33 c36 z.1 | exact c41 z.2)))) (rfl)
        · refine kr_iload_n h dX0_isTaken_39 rfl 2 rfl ?_
          refine kr_iload_n h dX0_isTaken_40 rfl 3 rfl ?_
          refine kr_icmp_ne h 48 dX0_isTaken_41 (by decide) (fun c41 => ?_) (fun c41 => ?_)
          · refine kr_iconst (v := 0) h dX0_isTaken_48 (by decide) ?_
            exact kr_zret h hr hlk dX0_isTaken_49 (rfl) (by first | exact xb_1 (Or.inl ⟨xb_t e1 c4, fun z => c13 (e12.trans z)⟩) | exact xb_1 (Or.inr (Or.inl ⟨xb_t e17 c20, fun z => c29 (e28.trans z)⟩)) | exact xb_1 (Or.inr (Or.inr ⟨xb_t e33 c36, c41⟩)) | exact xb_0 (fun z => z.elim (fun z => by first | exact xb_f e1 c4 z.1 | exact z.2 (e12.symm.trans c13)) (fun z => z.elim (fun z => by first | exact xb_f e17 c20 z.1 | exact z.2 (e28.symm.trans c29)) (fun z => by first | exact xb_f e33 c36 z.1 | exact c41 z.2)))) (rfl)
          · refine kr_iconst (v := 1) h dX0_isTaken_44 (by decide) ?_
            refine kr_goto h 49 dX0_isTaken_45 (by decide) ?_
            exact kr_zret h hr hlk dX0_isTaken_49 (rfl) (by first | exact xb_1 (Or.inl ⟨xb_t e1 c4, fun z => c13 (e12.trans z)⟩) | exact xb_1 (Or.inr (Or.inl ⟨xb_t e17 c20, fun z => c29 (e28.trans z)⟩)) | exact xb_1 (Or.inr (Or.inr ⟨xb_t e33 c36, c41⟩)) | exact xb_0 (fun z => z.elim (fun z => by first | exact xb_f e1 c4 z.1 | exact z.2 (e12.symm.trans c13)) (fun z => z.elim (fun z => by first | exact xb_f e17 c20 z.1 | exact z.2 (e28.symm.trans c29)) (fun z => by first | exact xb_f e33 c36 z.1 | exact c41 z.2)))) (rfl)
  · refine kr_aload_n h dX0_isTaken_7 rfl 0 rfl ?_
    refine kr_get h FX0ok 0 5 dX0_isTaken_8 flX0_25 rfl rfl (by decide) rfl rfl ?_
    refine kr_iload_n h dX0_isTaken_11 rfl 2 rfl ?_
    refine kr_zald h 6 1 dX0_isTaken_12 rfl rfl (ha (xb_t e1 c4)) (fun v12 e12 => ?_)
    refine kr_if_ne h 44 dX0_isTaken_13 (by decide) (fun c13 => ?_) (fun c13 => ?_)
    · refine kr_iconst (v := 1) h dX0_isTaken_44 (by decide) ?_
      refine kr_goto h 49 dX0_isTaken_45 (by decide) ?_
      exact kr_zret h hr hlk dX0_isTaken_49 (rfl) (by first | exact xb_1 (Or.inl ⟨xb_t e1 c4, fun z => c13 (e12.trans z)⟩) | exact xb_1 (Or.inr (Or.inl ⟨xb_t e17 c20, fun z => c29 (e28.trans z)⟩)) | exact xb_1 (Or.inr (Or.inr ⟨xb_t e33 c36, c41⟩)) | exact xb_0 (fun z => z.elim (fun z => by first | exact xb_f e1 c4 z.1 | exact z.2 (e12.symm.trans c13)) (fun z => z.elim (fun z => by first | exact xb_f e17 c20 z.1 | exact z.2 (e28.symm.trans c29)) (fun z => by first | exact xb_f e33 c36 z.1 | exact c41 z.2)))) (rfl)
    · refine kr_iload_n h dX0_isTaken_16 rfl 1 rfl ?_
      refine kr_i0 h (kc_rS h (c_hasPolicyB l D cI cZ cJ k) mlX0_174 ysX0_hasPolicyB dX0_isTaken_17 rfl rfl ⟨Nat.le_of_ble_eq_true rfl, Nat.le_of_ble_eq_true rfl⟩ ⟨Nat.le_of_ble_eq_true rfl, Nat.le_of_ble_eq_true rfl⟩ (Nat.le_of_ble_eq_true rfl) [] rfl rfl) (fun v17 e17 => ?_)
      refine kr_if_eq h 32 dX0_isTaken_20 (by decide) (fun c20 => ?_) (fun c20 => ?_)
      · refine kr_iload_n h dX0_isTaken_32 rfl 1 rfl ?_
        refine kr_i0 h (kc_rS h (c_isPair l D cI cZ cJ k) mlX0_162 ysX0_isPair dX0_isTaken_33 rfl rfl ⟨Nat.le_of_ble_eq_true rfl, Nat.le_of_ble_eq_true rfl⟩ ⟨Nat.le_of_ble_eq_true rfl, Nat.le_of_ble_eq_true rfl⟩ (Nat.le_of_ble_eq_true rfl) [] rfl rfl) (fun v33 e33 => ?_)
        refine kr_if_eq h 48 dX0_isTaken_36 (by decide) (fun c36 => ?_) (fun c36 => ?_)
        · refine kr_iconst (v := 0) h dX0_isTaken_48 (by decide) ?_
          exact kr_zret h hr hlk dX0_isTaken_49 (rfl) (by first | exact xb_1 (Or.inl ⟨xb_t e1 c4, fun z => c13 (e12.trans z)⟩) | exact xb_1 (Or.inr (Or.inl ⟨xb_t e17 c20, fun z => c29 (e28.trans z)⟩)) | exact xb_1 (Or.inr (Or.inr ⟨xb_t e33 c36, c41⟩)) | exact xb_0 (fun z => z.elim (fun z => by first | exact xb_f e1 c4 z.1 | exact z.2 (e12.symm.trans c13)) (fun z => z.elim (fun z => by first | exact xb_f e17 c20 z.1 | exact z.2 (e28.symm.trans c29)) (fun z => by first | exact xb_f e33 c36 z.1 | exact c41 z.2)))) (rfl)
        · refine kr_iload_n h dX0_isTaken_39 rfl 2 rfl ?_
          refine kr_iload_n h dX0_isTaken_40 rfl 3 rfl ?_
          refine kr_icmp_ne h 48 dX0_isTaken_41 (by decide) (fun c41 => ?_) (fun c41 => ?_)
          · refine kr_iconst (v := 0) h dX0_isTaken_48 (by decide) ?_
            exact kr_zret h hr hlk dX0_isTaken_49 (rfl) (by first | exact xb_1 (Or.inl ⟨xb_t e1 c4, fun z => c13 (e12.trans z)⟩) | exact xb_1 (Or.inr (Or.inl ⟨xb_t e17 c20, fun z => c29 (e28.trans z)⟩)) | exact xb_1 (Or.inr (Or.inr ⟨xb_t e33 c36, c41⟩)) | exact xb_0 (fun z => z.elim (fun z => by first | exact xb_f e1 c4 z.1 | exact z.2 (e12.symm.trans c13)) (fun z => z.elim (fun z => by first | exact xb_f e17 c20 z.1 | exact z.2 (e28.symm.trans c29)) (fun z => by first | exact xb_f e33 c36 z.1 | exact c41 z.2)))) (rfl)
          · refine kr_iconst (v := 1) h dX0_isTaken_44 (by decide) ?_
            refine kr_goto h 49 dX0_isTaken_45 (by decide) ?_
            exact kr_zret h hr hlk dX0_isTaken_49 (rfl) (by first | exact xb_1 (Or.inl ⟨xb_t e1 c4, fun z => c13 (e12.trans z)⟩) | exact xb_1 (Or.inr (Or.inl ⟨xb_t e17 c20, fun z => c29 (e28.trans z)⟩)) | exact xb_1 (Or.inr (Or.inr ⟨xb_t e33 c36, c41⟩)) | exact xb_0 (fun z => z.elim (fun z => by first | exact xb_f e1 c4 z.1 | exact z.2 (e12.symm.trans c13)) (fun z => z.elim (fun z => by first | exact xb_f e17 c20 z.1 | exact z.2 (e28.symm.trans c29)) (fun z => by first | exact xb_f e33 c36 z.1 | exact c41 z.2)))) (rfl)
      · refine kr_aload_n h dX0_isTaken_23 rfl 0 rfl ?_
        refine kr_get h FX0ok 0 5 dX0_isTaken_24 flX0_25 rfl rfl (by decide) rfl rfl ?_
        refine kr_iload_n h dX0_isTaken_27 rfl 3 rfl ?_
        refine kr_zald h 6 1 dX0_isTaken_28 rfl rfl (hb (xb_t e17 c20)) (fun v28 e28 => ?_)
        refine kr_if_ne h 44 dX0_isTaken_29 (by decide) (fun c29 => ?_) (fun c29 => ?_)
        · refine kr_iconst (v := 1) h dX0_isTaken_44 (by decide) ?_
          refine kr_goto h 49 dX0_isTaken_45 (by decide) ?_
          exact kr_zret h hr hlk dX0_isTaken_49 (rfl) (by first | exact xb_1 (Or.inl ⟨xb_t e1 c4, fun z => c13 (e12.trans z)⟩) | exact xb_1 (Or.inr (Or.inl ⟨xb_t e17 c20, fun z => c29 (e28.trans z)⟩)) | exact xb_1 (Or.inr (Or.inr ⟨xb_t e33 c36, c41⟩)) | exact xb_0 (fun z => z.elim (fun z => by first | exact xb_f e1 c4 z.1 | exact z.2 (e12.symm.trans c13)) (fun z => z.elim (fun z => by first | exact xb_f e17 c20 z.1 | exact z.2 (e28.symm.trans c29)) (fun z => by first | exact xb_f e33 c36 z.1 | exact c41 z.2)))) (rfl)
        · refine kr_iload_n h dX0_isTaken_32 rfl 1 rfl ?_
          refine kr_i0 h (kc_rS h (c_isPair l D cI cZ cJ k) mlX0_162 ysX0_isPair dX0_isTaken_33 rfl rfl ⟨Nat.le_of_ble_eq_true rfl, Nat.le_of_ble_eq_true rfl⟩ ⟨Nat.le_of_ble_eq_true rfl, Nat.le_of_ble_eq_true rfl⟩ (Nat.le_of_ble_eq_true rfl) [] rfl rfl) (fun v33 e33 => ?_)
          refine kr_if_eq h 48 dX0_isTaken_36 (by decide) (fun c36 => ?_) (fun c36 => ?_)
          · refine kr_iconst (v := 0) h dX0_isTaken_48 (by decide) ?_
            exact kr_zret h hr hlk dX0_isTaken_49 (rfl) (by first | exact xb_1 (Or.inl ⟨xb_t e1 c4, fun z => c13 (e12.trans z)⟩) | exact xb_1 (Or.inr (Or.inl ⟨xb_t e17 c20, fun z => c29 (e28.trans z)⟩)) | exact xb_1 (Or.inr (Or.inr ⟨xb_t e33 c36, c41⟩)) | exact xb_0 (fun z => z.elim (fun z => by first | exact xb_f e1 c4 z.1 | exact z.2 (e12.symm.trans c13)) (fun z => z.elim (fun z => by first | exact xb_f e17 c20 z.1 | exact z.2 (e28.symm.trans c29)) (fun z => by first | exact xb_f e33 c36 z.1 | exact c41 z.2)))) (rfl)
          · refine kr_iload_n h dX0_isTaken_39 rfl 2 rfl ?_
            refine kr_iload_n h dX0_isTaken_40 rfl 3 rfl ?_
            refine kr_icmp_ne h 48 dX0_isTaken_41 (by decide) (fun c41 => ?_) (fun c41 => ?_)
            · refine kr_iconst (v := 0) h dX0_isTaken_48 (by decide) ?_
              exact kr_zret h hr hlk dX0_isTaken_49 (rfl) (by first | exact xb_1 (Or.inl ⟨xb_t e1 c4, fun z => c13 (e12.trans z)⟩) | exact xb_1 (Or.inr (Or.inl ⟨xb_t e17 c20, fun z => c29 (e28.trans z)⟩)) | exact xb_1 (Or.inr (Or.inr ⟨xb_t e33 c36, c41⟩)) | exact xb_0 (fun z => z.elim (fun z => by first | exact xb_f e1 c4 z.1 | exact z.2 (e12.symm.trans c13)) (fun z => z.elim (fun z => by first | exact xb_f e17 c20 z.1 | exact z.2 (e28.symm.trans c29)) (fun z => by first | exact xb_f e33 c36 z.1 | exact c41 z.2)))) (rfl)
            · refine kr_iconst (v := 1) h dX0_isTaken_44 (by decide) ?_
              refine kr_goto h 49 dX0_isTaken_45 (by decide) ?_
              exact kr_zret h hr hlk dX0_isTaken_49 (rfl) (by first | exact xb_1 (Or.inl ⟨xb_t e1 c4, fun z => c13 (e12.trans z)⟩) | exact xb_1 (Or.inr (Or.inl ⟨xb_t e17 c20, fun z => c29 (e28.trans z)⟩)) | exact xb_1 (Or.inr (Or.inr ⟨xb_t e33 c36, c41⟩)) | exact xb_0 (fun z => z.elim (fun z => by first | exact xb_f e1 c4 z.1 | exact z.2 (e12.symm.trans c13)) (fun z => z.elim (fun z => by first | exact xb_f e17 c20 z.1 | exact z.2 (e28.symm.trans c29)) (fun z => by first | exact xb_f e33 c36 z.1 | exact c41 z.2)))) (rfl)
set_option maxHeartbeats 4000000 in
set_option maxRecDepth 100000 in
theorem c_levelAbove (l : Launch) (D : va_G) (cI cZ cJ : ClassId) (q : Nat → Nat) (x : xSt) (k a b : Int32) (ha : pA k → vp_in a 40) (hb : pB k → vp_in b 40) : kc_M l yX0_levelAbove cX0_levelAbove 6 (some .int) 2 40 0 0 [.ref (q 0), .int k, .int a, .int b] D vwCl (tyL cI cZ cJ) (wX cI cZ q x) (some (.int (xLev x k a b))) (wX cI cZ q (x)) := by
  refine kc_start RX0 (by decide +kernel) rfl (Nat.le_of_ble_eq_true rfl) ?_
  intro zp ze zs zm zb zt zc h hr hlk hnm
  refine kr_iload_n h dX0_levelAbove_0 rfl 1 rfl ?_
  refine kr_i0 h (kc_rS h (c_hasPolicyA l D cI cZ cJ k) mlX0_171 ysX0_hasPolicyA dX0_levelAbove_1 rfl rfl ⟨Nat.le_of_ble_eq_true rfl, Nat.le_of_ble_eq_true rfl⟩ ⟨Nat.le_of_ble_eq_true rfl, Nat.le_of_ble_eq_true rfl⟩ (Nat.le_of_ble_eq_true rfl) [] rfl rfl) (fun v1 e1 => ?_)
  refine kr_if_eq h 16 dX0_levelAbove_4 (by decide) (fun c4 => ?_) (fun c4 => ?_)
  · refine kr_iconst (v := 0) h dX0_levelAbove_16 (by decide) ?_
    refine kr_istore (lv' := [(4, .int 0), (0, .ref (q 0)), (1, .int k), (2, .int a), (3, .int b)]) h dX0_levelAbove_17 (by decide) rfl ?_
    refine kr_iload_n h dX0_levelAbove_19 rfl 2 rfl ?_
    refine kr_i0 h (kc_rS h (c_hasPolicyB l D cI cZ cJ k) mlX0_174 ysX0_hasPolicyB dX0_levelAbove_20 rfl rfl ⟨Nat.le_of_ble_eq_true rfl, Nat.le_of_ble_eq_true rfl⟩ ⟨Nat.le_of_ble_eq_true rfl, Nat.le_of_ble_eq_true rfl⟩ (Nat.le_of_ble_eq_true rfl) [] rfl rfl) (fun v20 e20 => ?_)
    refine kr_if_eq h 35 dX0_levelAbove_23 (by decide) (fun c23 => ?_) (fun c23 => ?_)
    · refine kr_iconst (v := 0) h dX0_levelAbove_35 (by decide) ?_
      refine kr_istore (lv' := [(5, .int 0), (4, .int 0), (0, .ref (q 0)), (1, .int k), (2, .int a), (3, .int b)]) h dX0_levelAbove_36 (by decide) rfl ?_
      refine kr_iload h dX0_levelAbove_38 1 rfl ?_
      refine kr_iload h dX0_levelAbove_40 0 rfl ?_
      refine kr_mmax h mlX0_177 ys_mmax dX0_levelAbove_42 (Nat.le_of_ble_eq_true rfl) (Nat.le_of_ble_eq_true rfl) (Nat.zero_le _) (Nat.zero_le _) (fun v42 e42 => ?_)
      refine kr_iconst (v := 1) h dX0_levelAbove_45 (by decide) ?_
      refine kr_iadd h dX0_levelAbove_46 (fun v46 e46 => ?_)
      exact kr_iret h hr hlk dX0_levelAbove_47 (by rw [e46, e42, xLev, xLa, xLb]; first | rw [if_pos (xb_t e1 c4), if_pos (xb_t e20 c23), e12, e31] | rw [if_pos (xb_t e1 c4), if_neg (xb_f e20 c23), e12] | rw [if_neg (xb_f e1 c4), if_pos (xb_t e20 c23), e31] | rw [if_neg (xb_f e1 c4), if_neg (xb_f e20 c23)]) (rfl)
    · refine kr_aload_n h dX0_levelAbove_26 rfl 1 rfl ?_
      refine kr_get h FX0ok 0 4 dX0_levelAbove_27 flX0_22 rfl rfl (by decide) rfl rfl ?_
      refine kr_iload_n h dX0_levelAbove_30 rfl 4 rfl ?_
      refine kr_iald h 5 0 dX0_levelAbove_31 rfl rfl (hb (xb_t e20 c23)) (fun v31 e31 => ?_)
      refine kr_goto h 36 dX0_levelAbove_32 (by decide) ?_
      refine kr_istore (lv' := [(5, .int v31), (4, .int 0), (0, .ref (q 0)), (1, .int k), (2, .int a), (3, .int b)]) h dX0_levelAbove_36 (by decide) rfl ?_
      refine kr_iload h dX0_levelAbove_38 1 rfl ?_
      refine kr_iload h dX0_levelAbove_40 0 rfl ?_
      refine kr_mmax h mlX0_177 ys_mmax dX0_levelAbove_42 (Nat.le_of_ble_eq_true rfl) (Nat.le_of_ble_eq_true rfl) (Nat.zero_le _) (Nat.zero_le _) (fun v42 e42 => ?_)
      refine kr_iconst (v := 1) h dX0_levelAbove_45 (by decide) ?_
      refine kr_iadd h dX0_levelAbove_46 (fun v46 e46 => ?_)
      exact kr_iret h hr hlk dX0_levelAbove_47 (by rw [e46, e42, xLev, xLa, xLb]; first | rw [if_pos (xb_t e1 c4), if_pos (xb_t e20 c23), e12, e31] | rw [if_pos (xb_t e1 c4), if_neg (xb_f e20 c23), e12] | rw [if_neg (xb_f e1 c4), if_pos (xb_t e20 c23), e31] | rw [if_neg (xb_f e1 c4), if_neg (xb_f e20 c23)]) (rfl)
  · refine kr_aload_n h dX0_levelAbove_7 rfl 0 rfl ?_
    refine kr_get h FX0ok 0 4 dX0_levelAbove_8 flX0_22 rfl rfl (by decide) rfl rfl ?_
    refine kr_iload_n h dX0_levelAbove_11 rfl 2 rfl ?_
    refine kr_iald h 5 0 dX0_levelAbove_12 rfl rfl (ha (xb_t e1 c4)) (fun v12 e12 => ?_)
    refine kr_goto h 17 dX0_levelAbove_13 (by decide) ?_
    refine kr_istore (lv' := [(4, .int v12), (0, .ref (q 0)), (1, .int k), (2, .int a), (3, .int b)]) h dX0_levelAbove_17 (by decide) rfl ?_
    refine kr_iload_n h dX0_levelAbove_19 rfl 2 rfl ?_
    refine kr_i0 h (kc_rS h (c_hasPolicyB l D cI cZ cJ k) mlX0_174 ysX0_hasPolicyB dX0_levelAbove_20 rfl rfl ⟨Nat.le_of_ble_eq_true rfl, Nat.le_of_ble_eq_true rfl⟩ ⟨Nat.le_of_ble_eq_true rfl, Nat.le_of_ble_eq_true rfl⟩ (Nat.le_of_ble_eq_true rfl) [] rfl rfl) (fun v20 e20 => ?_)
    refine kr_if_eq h 35 dX0_levelAbove_23 (by decide) (fun c23 => ?_) (fun c23 => ?_)
    · refine kr_iconst (v := 0) h dX0_levelAbove_35 (by decide) ?_
      refine kr_istore (lv' := [(5, .int 0), (4, .int v12), (0, .ref (q 0)), (1, .int k), (2, .int a), (3, .int b)]) h dX0_levelAbove_36 (by decide) rfl ?_
      refine kr_iload h dX0_levelAbove_38 1 rfl ?_
      refine kr_iload h dX0_levelAbove_40 0 rfl ?_
      refine kr_mmax h mlX0_177 ys_mmax dX0_levelAbove_42 (Nat.le_of_ble_eq_true rfl) (Nat.le_of_ble_eq_true rfl) (Nat.zero_le _) (Nat.zero_le _) (fun v42 e42 => ?_)
      refine kr_iconst (v := 1) h dX0_levelAbove_45 (by decide) ?_
      refine kr_iadd h dX0_levelAbove_46 (fun v46 e46 => ?_)
      exact kr_iret h hr hlk dX0_levelAbove_47 (by rw [e46, e42, xLev, xLa, xLb]; first | rw [if_pos (xb_t e1 c4), if_pos (xb_t e20 c23), e12, e31] | rw [if_pos (xb_t e1 c4), if_neg (xb_f e20 c23), e12] | rw [if_neg (xb_f e1 c4), if_pos (xb_t e20 c23), e31] | rw [if_neg (xb_f e1 c4), if_neg (xb_f e20 c23)]) (rfl)
    · refine kr_aload_n h dX0_levelAbove_26 rfl 1 rfl ?_
      refine kr_get h FX0ok 0 4 dX0_levelAbove_27 flX0_22 rfl rfl (by decide) rfl rfl ?_
      refine kr_iload_n h dX0_levelAbove_30 rfl 4 rfl ?_
      refine kr_iald h 5 0 dX0_levelAbove_31 rfl rfl (hb (xb_t e20 c23)) (fun v31 e31 => ?_)
      refine kr_goto h 36 dX0_levelAbove_32 (by decide) ?_
      refine kr_istore (lv' := [(5, .int v31), (4, .int v12), (0, .ref (q 0)), (1, .int k), (2, .int a), (3, .int b)]) h dX0_levelAbove_36 (by decide) rfl ?_
      refine kr_iload h dX0_levelAbove_38 1 rfl ?_
      refine kr_iload h dX0_levelAbove_40 0 rfl ?_
      refine kr_mmax h mlX0_177 ys_mmax dX0_levelAbove_42 (Nat.le_of_ble_eq_true rfl) (Nat.le_of_ble_eq_true rfl) (Nat.zero_le _) (Nat.zero_le _) (fun v42 e42 => ?_)
      refine kr_iconst (v := 1) h dX0_levelAbove_45 (by decide) ?_
      refine kr_iadd h dX0_levelAbove_46 (fun v46 e46 => ?_)
      exact kr_iret h hr hlk dX0_levelAbove_47 (by rw [e46, e42, xLev, xLa, xLb]; first | rw [if_pos (xb_t e1 c4), if_pos (xb_t e20 c23), e12, e31] | rw [if_pos (xb_t e1 c4), if_neg (xb_f e20 c23), e12] | rw [if_neg (xb_f e1 c4), if_pos (xb_t e20 c23), e31] | rw [if_neg (xb_f e1 c4), if_neg (xb_f e20 c23)]) (rfl)
set_option maxHeartbeats 4000000 in
set_option maxRecDepth 100000 in
theorem c_addPolicy (l : Launch) (D : va_G) (cI cZ cJ : ClassId) (q : Nat → Nat) (x : xSt) (k a b c v : Int32) (hn : vp_in (x.2 0) 40) (ha : pA k → vp_in a 40) (hb : pB k → vp_in b 40) : kc_M l yX0_addPolicy cX0_addPolicy 7 (some .int) 2 40 0 0 [.ref (q 0), .int k, .int a, .int b, .int c, .int v] D vwCl (tyL cI cZ cJ) (wX cI cZ q x) (some (.int (x.2 0))) (wX cI cZ q (xAdd x k a b c v)) := by
  refine kc_start RX0 (by decide +kernel) rfl (Nat.le_of_ble_eq_true rfl) ?_
  intro zp ze zs zm zb zt zc h hr hlk hnm
  refine kr_aload_n h dX0_addPolicy_0 rfl 0 rfl ?_
  refine kr_get h FX0ok 0 11 dX0_addPolicy_1 flX0_93 rfl rfl (by decide) rfl rfl ?_
  refine kr_top h (fun v1 e1 => ?_)
  refine kr_istore (lv' := [(6, .int v1), (0, .ref (q 0)), (1, .int k), (2, .int a), (3, .int b), (4, .int c), (5, .int v)]) h dX0_addPolicy_4 (by decide) rfl ?_
  refine kr_aload_n h dX0_addPolicy_6 rfl 1 rfl ?_
  refine kr_get h FX0ok 0 0 dX0_addPolicy_7 flX0_9 rfl rfl (by decide) rfl rfl ?_
  refine kr_iload h dX0_addPolicy_10 0 rfl ?_
  refine kr_iload_n h dX0_addPolicy_12 rfl 2 rfl ?_
  refine kr_iast (ws' := wX cI cZ q (xA x 0 (upd (x.1 0) (tn v1) k))) h 1 0 dX0_addPolicy_13 rfl rfl (by rw [e1]; exact hn) (wX_r0 cI cZ q x _) ?_
  generalize ex13 : (xA x 0 (upd (x.1 0) (tn v1) k)) = x13
  refine kr_aload_n h dX0_addPolicy_14 rfl 1 rfl ?_
  refine kr_get h FX0ok 0 1 dX0_addPolicy_15 flX0_13 rfl rfl (by decide) rfl rfl ?_
  refine kr_iload h dX0_addPolicy_18 0 rfl ?_
  refine kr_iload_n h dX0_addPolicy_20 rfl 3 rfl ?_
  refine kr_iast (ws' := wX cI cZ q (xA x13 1 (upd (x13.1 1) (tn v1) a))) h 2 0 dX0_addPolicy_21 rfl rfl (by rw [e1]; exact hn) (wX_r1 cI cZ q x13 _) ?_
  generalize ex21 : (xA x13 1 (upd (x13.1 1) (tn v1) a)) = x21
  refine kr_aload_n h dX0_addPolicy_22 rfl 1 rfl ?_
  refine kr_get h FX0ok 0 2 dX0_addPolicy_23 flX0_16 rfl rfl (by decide) rfl rfl ?_
  refine kr_iload h dX0_addPolicy_26 0 rfl ?_
  refine kr_iload_n h dX0_addPolicy_28 rfl 4 rfl ?_
  refine kr_iast (ws' := wX cI cZ q (xA x21 2 (upd (x21.1 2) (tn v1) b))) h 3 0 dX0_addPolicy_29 rfl rfl (by rw [e1]; exact hn) (wX_r2 cI cZ q x21 _) ?_
  generalize ex29 : (xA x21 2 (upd (x21.1 2) (tn v1) b)) = x29
  refine kr_aload_n h dX0_addPolicy_30 rfl 1 rfl ?_
  refine kr_get h FX0ok 0 3 dX0_addPolicy_31 flX0_19 rfl rfl (by decide) rfl rfl ?_
  refine kr_iload h dX0_addPolicy_34 0 rfl ?_
  refine kr_iload h dX0_addPolicy_36 5 rfl ?_
  refine kr_iast (ws' := wX cI cZ q (xA x29 3 (upd (x29.1 3) (tn v1) c))) h 4 0 dX0_addPolicy_38 rfl rfl (by rw [e1]; exact hn) (wX_r3 cI cZ q x29 _) ?_
  generalize ex38 : (xA x29 3 (upd (x29.1 3) (tn v1) c)) = x38
  refine kr_aload_n h dX0_addPolicy_39 rfl 1 rfl ?_
  refine kr_get h FX0ok 0 4 dX0_addPolicy_40 flX0_22 rfl rfl (by decide) rfl rfl ?_
  refine kr_iload h dX0_addPolicy_43 0 rfl ?_
  refine kr_iload h dX0_addPolicy_45 6 rfl ?_
  refine kr_iast (ws' := wX cI cZ q (xA x38 4 (upd (x38.1 4) (tn v1) v))) h 5 0 dX0_addPolicy_47 rfl rfl (by rw [e1]; exact hn) (wX_r4 cI cZ q x38 _) ?_
  generalize ex47 : (xA x38 4 (upd (x38.1 4) (tn v1) v)) = x47
  refine kr_iload_n h dX0_addPolicy_48 rfl 2 rfl ?_
  refine kr_i0 h (kc_rS h (c_hasPolicyA l D cI cZ cJ k) mlX0_171 ysX0_hasPolicyA dX0_addPolicy_49 rfl rfl ⟨Nat.le_of_ble_eq_true rfl, Nat.le_of_ble_eq_true rfl⟩ ⟨Nat.le_of_ble_eq_true rfl, Nat.le_of_ble_eq_true rfl⟩ (Nat.le_of_ble_eq_true rfl) [] rfl rfl) (fun v49 e49 => ?_)
  refine kr_if_eq h 62 dX0_addPolicy_52 (by decide) (fun c52 => ?_) (fun c52 => ?_)
  · refine kr_iload_n h dX0_addPolicy_62 rfl 2 rfl ?_
    refine kr_i0 h (kc_rS h (c_hasPolicyB l D cI cZ cJ k) mlX0_174 ysX0_hasPolicyB dX0_addPolicy_63 rfl rfl ⟨Nat.le_of_ble_eq_true rfl, Nat.le_of_ble_eq_true rfl⟩ ⟨Nat.le_of_ble_eq_true rfl, Nat.le_of_ble_eq_true rfl⟩ (Nat.le_of_ble_eq_true rfl) [] rfl rfl) (fun v63 e63 => ?_)
    refine kr_if_eq h 76 dX0_addPolicy_66 (by decide) (fun c66 => ?_) (fun c66 => ?_)
    · refine kr_aload_n h dX0_addPolicy_76 rfl 1 rfl ?_
      refine kr_dup h dX0_addPolicy_77 rfl ?_
      refine kr_get h FX0ok 0 11 dX0_addPolicy_78 flX0_93 rfl rfl (by decide) rfl rfl ?_
      refine kr_top h (fun v78 e78 => ?_)
      refine kr_iconst (v := 1) h dX0_addPolicy_81 (by decide) ?_
      refine kr_iadd h dX0_addPolicy_82 (fun v82 e82 => ?_)
      refine kr_put (ws' := wX cI cZ q (xI x47 0 v82)) h FX0ok 0 11 dX0_addPolicy_83 flX0_93 rfl rfl (by decide) rfl rfl rfl rfl (Nat.le_of_ble_eq_true rfl) rfl ?_
      generalize ex83 : (xI x47 0 v82) = x83
      refine kr_iload h dX0_addPolicy_86 0 rfl ?_
      exact kr_iret h hr hlk dX0_addPolicy_88 (e1) (by clear h hr hlk hnm; first | (have hA := xb_t e49 c52; have hB := xb_t e63 c66; clear e49 c52 e63 c66; subst_vars; rw [xAdd, xU, xU, if_pos hA, if_pos hB]; rfl) | (have hA := xb_t e49 c52; have hB := xb_f e63 c66; clear e49 c52 e63 c66; subst_vars; rw [xAdd, xU, xU, if_pos hA, if_neg hB]; rfl) | (have hA := xb_f e49 c52; have hB := xb_t e63 c66; clear e49 c52 e63 c66; subst_vars; rw [xAdd, xU, xU, if_neg hA, if_pos hB]; rfl) | (have hA := xb_f e49 c52; have hB := xb_f e63 c66; clear e49 c52 e63 c66; subst_vars; rw [xAdd, xU, xU, if_neg hA, if_neg hB]; rfl))
    · refine kr_aload_n h dX0_addPolicy_69 rfl 1 rfl ?_
      refine kr_get h FX0ok 0 5 dX0_addPolicy_70 flX0_25 rfl rfl (by decide) rfl rfl ?_
      refine kr_iload_n h dX0_addPolicy_73 rfl 4 rfl ?_
      refine kr_iconst (v := 1) h dX0_addPolicy_74 (by decide) ?_
      refine kr_zastN (ws' := wX cI cZ q (xA x47 5 (upd (x47.1 5) (tn b) 1))) h 6 1 kc_n1 dX0_addPolicy_75 rfl rfl (hb (xb_t e63 c66)) (wX_r5 cI cZ q x47 _) ?_
      generalize ex75 : (xA x47 5 (upd (x47.1 5) (tn b) 1)) = x75
      refine kr_aload_n h dX0_addPolicy_76 rfl 1 rfl ?_
      refine kr_dup h dX0_addPolicy_77 rfl ?_
      refine kr_get h FX0ok 0 11 dX0_addPolicy_78 flX0_93 rfl rfl (by decide) rfl rfl ?_
      refine kr_top h (fun v78 e78 => ?_)
      refine kr_iconst (v := 1) h dX0_addPolicy_81 (by decide) ?_
      refine kr_iadd h dX0_addPolicy_82 (fun v82 e82 => ?_)
      refine kr_put (ws' := wX cI cZ q (xI x75 0 v82)) h FX0ok 0 11 dX0_addPolicy_83 flX0_93 rfl rfl (by decide) rfl rfl rfl rfl (Nat.le_of_ble_eq_true rfl) rfl ?_
      generalize ex83 : (xI x75 0 v82) = x83
      refine kr_iload h dX0_addPolicy_86 0 rfl ?_
      exact kr_iret h hr hlk dX0_addPolicy_88 (e1) (by clear h hr hlk hnm; first | (have hA := xb_t e49 c52; have hB := xb_t e63 c66; clear e49 c52 e63 c66; subst_vars; rw [xAdd, xU, xU, if_pos hA, if_pos hB]; rfl) | (have hA := xb_t e49 c52; have hB := xb_f e63 c66; clear e49 c52 e63 c66; subst_vars; rw [xAdd, xU, xU, if_pos hA, if_neg hB]; rfl) | (have hA := xb_f e49 c52; have hB := xb_t e63 c66; clear e49 c52 e63 c66; subst_vars; rw [xAdd, xU, xU, if_neg hA, if_pos hB]; rfl) | (have hA := xb_f e49 c52; have hB := xb_f e63 c66; clear e49 c52 e63 c66; subst_vars; rw [xAdd, xU, xU, if_neg hA, if_neg hB]; rfl))
  · refine kr_aload_n h dX0_addPolicy_55 rfl 1 rfl ?_
    refine kr_get h FX0ok 0 5 dX0_addPolicy_56 flX0_25 rfl rfl (by decide) rfl rfl ?_
    refine kr_iload_n h dX0_addPolicy_59 rfl 3 rfl ?_
    refine kr_iconst (v := 1) h dX0_addPolicy_60 (by decide) ?_
    refine kr_zastN (ws' := wX cI cZ q (xA x47 5 (upd (x47.1 5) (tn a) 1))) h 6 1 kc_n1 dX0_addPolicy_61 rfl rfl (ha (xb_t e49 c52)) (wX_r5 cI cZ q x47 _) ?_
    generalize ex61 : (xA x47 5 (upd (x47.1 5) (tn a) 1)) = x61
    refine kr_iload_n h dX0_addPolicy_62 rfl 2 rfl ?_
    refine kr_i0 h (kc_rS h (c_hasPolicyB l D cI cZ cJ k) mlX0_174 ysX0_hasPolicyB dX0_addPolicy_63 rfl rfl ⟨Nat.le_of_ble_eq_true rfl, Nat.le_of_ble_eq_true rfl⟩ ⟨Nat.le_of_ble_eq_true rfl, Nat.le_of_ble_eq_true rfl⟩ (Nat.le_of_ble_eq_true rfl) [] rfl rfl) (fun v63 e63 => ?_)
    refine kr_if_eq h 76 dX0_addPolicy_66 (by decide) (fun c66 => ?_) (fun c66 => ?_)
    · refine kr_aload_n h dX0_addPolicy_76 rfl 1 rfl ?_
      refine kr_dup h dX0_addPolicy_77 rfl ?_
      refine kr_get h FX0ok 0 11 dX0_addPolicy_78 flX0_93 rfl rfl (by decide) rfl rfl ?_
      refine kr_top h (fun v78 e78 => ?_)
      refine kr_iconst (v := 1) h dX0_addPolicy_81 (by decide) ?_
      refine kr_iadd h dX0_addPolicy_82 (fun v82 e82 => ?_)
      refine kr_put (ws' := wX cI cZ q (xI x61 0 v82)) h FX0ok 0 11 dX0_addPolicy_83 flX0_93 rfl rfl (by decide) rfl rfl rfl rfl (Nat.le_of_ble_eq_true rfl) rfl ?_
      generalize ex83 : (xI x61 0 v82) = x83
      refine kr_iload h dX0_addPolicy_86 0 rfl ?_
      exact kr_iret h hr hlk dX0_addPolicy_88 (e1) (by clear h hr hlk hnm; first | (have hA := xb_t e49 c52; have hB := xb_t e63 c66; clear e49 c52 e63 c66; subst_vars; rw [xAdd, xU, xU, if_pos hA, if_pos hB]; rfl) | (have hA := xb_t e49 c52; have hB := xb_f e63 c66; clear e49 c52 e63 c66; subst_vars; rw [xAdd, xU, xU, if_pos hA, if_neg hB]; rfl) | (have hA := xb_f e49 c52; have hB := xb_t e63 c66; clear e49 c52 e63 c66; subst_vars; rw [xAdd, xU, xU, if_neg hA, if_pos hB]; rfl) | (have hA := xb_f e49 c52; have hB := xb_f e63 c66; clear e49 c52 e63 c66; subst_vars; rw [xAdd, xU, xU, if_neg hA, if_neg hB]; rfl))
    · refine kr_aload_n h dX0_addPolicy_69 rfl 1 rfl ?_
      refine kr_get h FX0ok 0 5 dX0_addPolicy_70 flX0_25 rfl rfl (by decide) rfl rfl ?_
      refine kr_iload_n h dX0_addPolicy_73 rfl 4 rfl ?_
      refine kr_iconst (v := 1) h dX0_addPolicy_74 (by decide) ?_
      refine kr_zastN (ws' := wX cI cZ q (xA x61 5 (upd (x61.1 5) (tn b) 1))) h 6 1 kc_n1 dX0_addPolicy_75 rfl rfl (hb (xb_t e63 c66)) (wX_r5 cI cZ q x61 _) ?_
      generalize ex75 : (xA x61 5 (upd (x61.1 5) (tn b) 1)) = x75
      refine kr_aload_n h dX0_addPolicy_76 rfl 1 rfl ?_
      refine kr_dup h dX0_addPolicy_77 rfl ?_
      refine kr_get h FX0ok 0 11 dX0_addPolicy_78 flX0_93 rfl rfl (by decide) rfl rfl ?_
      refine kr_top h (fun v78 e78 => ?_)
      refine kr_iconst (v := 1) h dX0_addPolicy_81 (by decide) ?_
      refine kr_iadd h dX0_addPolicy_82 (fun v82 e82 => ?_)
      refine kr_put (ws' := wX cI cZ q (xI x75 0 v82)) h FX0ok 0 11 dX0_addPolicy_83 flX0_93 rfl rfl (by decide) rfl rfl rfl rfl (Nat.le_of_ble_eq_true rfl) rfl ?_
      generalize ex83 : (xI x75 0 v82) = x83
      refine kr_iload h dX0_addPolicy_86 0 rfl ?_
      exact kr_iret h hr hlk dX0_addPolicy_88 (e1) (by clear h hr hlk hnm; first | (have hA := xb_t e49 c52; have hB := xb_t e63 c66; clear e49 c52 e63 c66; subst_vars; rw [xAdd, xU, xU, if_pos hA, if_pos hB]; rfl) | (have hA := xb_t e49 c52; have hB := xb_f e63 c66; clear e49 c52 e63 c66; subst_vars; rw [xAdd, xU, xU, if_pos hA, if_neg hB]; rfl) | (have hA := xb_f e49 c52; have hB := xb_t e63 c66; clear e49 c52 e63 c66; subst_vars; rw [xAdd, xU, xU, if_neg hA, if_pos hB]; rfl) | (have hA := xb_f e49 c52; have hB := xb_f e63 c66; clear e49 c52 e63 c66; subst_vars; rw [xAdd, xU, xU, if_neg hA, if_neg hB]; rfl))
set_option maxHeartbeats 4000000 in
set_option maxRecDepth 100000 in
theorem c_state (l : Launch) (D : va_G) (cI cZ cJ : ClassId) (q : Nat → Nat) (x : xSt) (p : Int32) (hN : xN x) : kc_M l yX0_state cX0_state 3 (some .int) 2 42 0 0 [.ref (q 0), .int p] D vwCl (tyL cI cZ cJ) (wX cI cZ q x) (some (.int (xState x p))) (wX cI cZ q (x)) := by
  refine kc_start RX0 (by decide +kernel) rfl (Nat.le_of_ble_eq_true rfl) ?_
  intro zp ze zs zm zb zt zc h hr hlk hnm
  refine kr_aload_n h dX0_state_0 rfl 0 rfl ?_
  refine kr_iload_n h dX0_state_1 rfl 1 rfl ?_
  refine kr_iA h (kc_rV h (c_isPolicy l D cI cZ cJ q x p) mlX0_105 yvX0_isPolicy dX0_state_2 rfl rfl ⟨Nat.le_of_ble_eq_true rfl, Nat.le_of_ble_eq_true rfl⟩ ⟨Nat.le_of_ble_eq_true rfl, Nat.le_of_ble_eq_true rfl⟩ (Nat.le_of_ble_eq_true rfl) [0, 1, 2, 3, 4, 5, 6, 7, 8, 9, 10, 11] rfl rfl 0 rfl rfl rfl) (fun v2 e2 => ?_)
  refine kr_if_ne h 10 dX0_state_5 (by decide) (fun c5 => ?_) (fun c5 => ?_)
  · refine kr_aload_n h dX0_state_10 rfl 0 rfl ?_
    refine kr_get h FX0ok 0 0 dX0_state_11 flX0_9 rfl rfl (by decide) rfl rfl ?_
    refine kr_iload_n h dX0_state_14 rfl 1 rfl ?_
    refine kr_iald h 1 0 dX0_state_15 rfl rfl (xN_in hN (xb_t e2 c5)) (fun v15 e15 => ?_)
    refine kr_iconst (v := 3) h dX0_state_16 (by decide) ?_
    refine kr_icmp_eq h 31 dX0_state_17 (by decide) (fun c17 => ?_) (fun c17 => ?_)
    · refine kr_iconst (v := 1) h dX0_state_31 (by decide) ?_
      refine kr_goto h 36 dX0_state_32 (by decide) ?_
      refine kr_istore_n (lv' := [(2, .int 1), (0, .ref (q 0)), (1, .int p)]) h dX0_state_36 rfl (by decide) rfl ?_
      refine kr_iload_n h dX0_state_37 rfl 0 rfl ?_
      refine kr_if_eq h 50 dX0_state_38 (by decide) (fun c38 => ?_) (fun c38 => ?_)
      · exact absurd c38 (by decide)
      · refine kr_aload_n h dX0_state_41 rfl 1 rfl ?_
        refine kr_get h FX0ok 0 6 dX0_state_42 flX0_29 rfl rfl (by decide) rfl rfl ?_
        refine kr_iload_n h dX0_state_45 rfl 2 rfl ?_
        refine kr_iald h 7 0 dX0_state_46 rfl rfl (xN_in hN (xb_t e2 c5)) (fun v46 e46 => ?_)
        refine kr_goto h 51 dX0_state_47 (by decide) ?_
        exact kr_iret h hr hlk dX0_state_51 (by rw [xState, if_pos (xb_t e2 c5)]; first | (rw [if_pos (Or.inl (e15.symm.trans c17))]; exact e46) | (rw [if_pos (Or.inr (e25.symm.trans c28))]; exact e46) | (rw [if_neg (fun z => z.elim (fun z => c17 (e15.trans z)) (fun z => c28 (e25.trans z)))])) (rfl)
    · refine kr_aload_n h dX0_state_20 rfl 0 rfl ?_
      refine kr_get h FX0ok 0 0 dX0_state_21 flX0_9 rfl rfl (by decide) rfl rfl ?_
      refine kr_iload_n h dX0_state_24 rfl 1 rfl ?_
      refine kr_iald h 1 0 dX0_state_25 rfl rfl (xN_in hN (xb_t e2 c5)) (fun v25 e25 => ?_)
      refine kr_bipush (v := 6) h dX0_state_26 (by decide) ?_
      refine kr_icmp_ne h 35 dX0_state_28 (by decide) (fun c28 => ?_) (fun c28 => ?_)
      · refine kr_iconst (v := 0) h dX0_state_35 (by decide) ?_
        refine kr_istore_n (lv' := [(2, .int 0), (0, .ref (q 0)), (1, .int p)]) h dX0_state_36 rfl (by decide) rfl ?_
        refine kr_iload_n h dX0_state_37 rfl 0 rfl ?_
        refine kr_if_eq h 50 dX0_state_38 (by decide) (fun c38 => ?_) (fun c38 => ?_)
        · refine kr_iconst (v := (-1)) h dX0_state_50 (by decide) ?_
          exact kr_iret h hr hlk dX0_state_51 (by rw [xState, if_pos (xb_t e2 c5)]; first | (rw [if_pos (Or.inl (e15.symm.trans c17))]; exact e46) | (rw [if_pos (Or.inr (e25.symm.trans c28))]; exact e46) | (rw [if_neg (fun z => z.elim (fun z => c17 (e15.trans z)) (fun z => c28 (e25.trans z)))])) (rfl)
        · exact absurd c38 (by decide)
      · refine kr_iconst (v := 1) h dX0_state_31 (by decide) ?_
        refine kr_goto h 36 dX0_state_32 (by decide) ?_
        refine kr_istore_n (lv' := [(2, .int 1), (0, .ref (q 0)), (1, .int p)]) h dX0_state_36 rfl (by decide) rfl ?_
        refine kr_iload_n h dX0_state_37 rfl 0 rfl ?_
        refine kr_if_eq h 50 dX0_state_38 (by decide) (fun c38 => ?_) (fun c38 => ?_)
        · exact absurd c38 (by decide)
        · refine kr_aload_n h dX0_state_41 rfl 1 rfl ?_
          refine kr_get h FX0ok 0 6 dX0_state_42 flX0_29 rfl rfl (by decide) rfl rfl ?_
          refine kr_iload_n h dX0_state_45 rfl 2 rfl ?_
          refine kr_iald h 7 0 dX0_state_46 rfl rfl (xN_in hN (xb_t e2 c5)) (fun v46 e46 => ?_)
          refine kr_goto h 51 dX0_state_47 (by decide) ?_
          exact kr_iret h hr hlk dX0_state_51 (by rw [xState, if_pos (xb_t e2 c5)]; first | (rw [if_pos (Or.inl (e15.symm.trans c17))]; exact e46) | (rw [if_pos (Or.inr (e25.symm.trans c28))]; exact e46) | (rw [if_neg (fun z => z.elim (fun z => c17 (e15.trans z)) (fun z => c28 (e25.trans z)))])) (rfl)
  · refine kr_iconst (v := (-1)) h dX0_state_8 (by decide) ?_
    exact kr_iret h hr hlk dX0_state_9 (by rw [xState, if_neg (xb_f e2 c5)]) (rfl)
set_option maxHeartbeats 4000000 in
set_option maxRecDepth 100000 in
theorem c_noted (l : Launch) (D : va_G) (cI cZ cJ : ClassId) (q : Nat → Nat) (x : xSt) (k : Int32) : kc_M l yX0_noted cX0_noted 2 (some .int) 1 22 0 0 [.ref (q 0), .int k] D vwCl (tyL cI cZ cJ) (wX cI cZ q x) (some (.int (xNoted x k))) (wX cI cZ q (x)) := by
  refine kc_start RX0 (by decide +kernel) rfl (Nat.le_of_ble_eq_true rfl) ?_
  intro zp ze zs zm zb zt zc h hr hlk hnm
  refine kr_iload_n h dX0_noted_0 rfl 1 rfl ?_
  refine kr_bipush (v := 16) h dX0_noted_1 (by decide) ?_
  refine kr_i0 h (kc_rS h (c_isBelow l D cI cZ cJ k 16) mlX0_52 ysX0_isBelow dX0_noted_3 rfl rfl ⟨Nat.le_of_ble_eq_true rfl, Nat.le_of_ble_eq_true rfl⟩ ⟨Nat.le_of_ble_eq_true rfl, Nat.le_of_ble_eq_true rfl⟩ (Nat.le_of_ble_eq_true rfl) [] rfl rfl) (fun v3 e3 => ?_)
  refine kr_if_eq h 17 dX0_noted_6 (by decide) (fun c6 => ?_) (fun c6 => ?_)
  · refine kr_iconst (v := (-1)) h dX0_noted_17 (by decide) ?_
    exact kr_iret h hr hlk dX0_noted_18 (by first | rw [xNoted, if_neg (fun z => xb_f e3 c6 z.1)] | rw [xNoted, if_neg (fun z => c14 (by rw [e11]; exact z.2))]) (rfl)
  · refine kr_iload_n h dX0_noted_9 rfl 1 rfl ?_
    refine kr_aload_n h dX0_noted_10 rfl 0 rfl ?_
    refine kr_get h FX0ok 0 12 dX0_noted_11 flX0_148 rfl rfl (by decide) rfl rfl ?_
    refine kr_top h (fun v11 e11 => ?_)
    refine kr_icmp_lt h 19 dX0_noted_14 (by decide) (fun c14 => ?_) (fun c14 => ?_)
    · refine kr_aload_n h dX0_noted_19 rfl 0 rfl ?_
      refine kr_get h FX0ok 0 10 dX0_noted_20 flX0_41 rfl rfl (by decide) rfl rfl ?_
      refine kr_aload_n h dX0_noted_23 rfl 0 rfl ?_
      refine kr_get h FX0ok 0 12 dX0_noted_24 flX0_148 rfl rfl (by decide) rfl rfl ?_
      refine kr_top h (fun v24 e24 => ?_)
      refine kr_iconst (v := 1) h dX0_noted_27 (by decide) ?_
      refine kr_isub h dX0_noted_28 (fun v28 e28 => ?_)
      refine kr_iload_n h dX0_noted_29 rfl 1 rfl ?_
      refine kr_isub h dX0_noted_30 (fun v30 e30 => ?_)
      refine kr_bipush (v := 16) h dX0_noted_31 (by decide) ?_
      refine kr_i0 h (kc_rS h (c_floorMod l D cI cZ cJ v30 16 (by decide)) mlX0_151 ysJ9_floorMod dX0_noted_33 rfl rfl ⟨Nat.le_of_ble_eq_true rfl, Nat.le_of_ble_eq_true rfl⟩ ⟨Nat.le_of_ble_eq_true rfl, Nat.le_of_ble_eq_true rfl⟩ (Nat.le_of_ble_eq_true rfl) [] rfl rfl) (fun v33 e33 => ?_)
      refine kr_iald h 11 0 dX0_noted_36 rfl rfl (by rw [e33]; exact xF16_in _) (fun v36 e36 => ?_)
      exact kr_iret h hr hlk dX0_noted_37 (by rw [xNoted, if_pos ⟨xb_t e3 c6, by rw [← e11]; exact c14⟩, e36, e33, e30, e28, e24]) (rfl)
    · refine kr_iconst (v := (-1)) h dX0_noted_17 (by decide) ?_
      exact kr_iret h hr hlk dX0_noted_18 (by first | rw [xNoted, if_neg (fun z => xb_f e3 c6 z.1)] | rw [xNoted, if_neg (fun z => c14 (by rw [e11]; exact z.2))]) (rfl)
set_option maxHeartbeats 4000000 in
set_option maxRecDepth 100000 in
theorem c_count (l : Launch) (D : va_G) (cI cZ cJ : ClassId) (q : Nat → Nat) (x : xSt) (w : Int32) : kc_M l yX0_count cX0_count 2 (some .int) 0 0 0 0 [.ref (q 0), .int w] D vwCl (tyL cI cZ cJ) (wX cI cZ q x) (some (.int (xCount x w))) (wX cI cZ q (x)) := by
  refine kc_start RX0 (by decide +kernel) rfl (Nat.le_of_ble_eq_true rfl) ?_
  intro zp ze zs zm zb zt zc h hr hlk hnm
  refine kr_iload_n h dX0_count_0 rfl 1 rfl ?_
  rcases kc_sw w 0 7 with hj1 | ⟨j1, hl1, hj1, ej1⟩
  · refine kr_tabOut h 87 dX0_count_1 (by omega) (by decide) ?_
    have n1_0 : ¬ w = 0 := fun z => by rw [z] at hj1; revert hj1; decide +kernel
    have n1_1 : ¬ w = 1 := fun z => by rw [z] at hj1; revert hj1; decide +kernel
    have n1_2 : ¬ w = 2 := fun z => by rw [z] at hj1; revert hj1; decide +kernel
    have n1_3 : ¬ w = 3 := fun z => by rw [z] at hj1; revert hj1; decide +kernel
    have n1_4 : ¬ w = 4 := fun z => by rw [z] at hj1; revert hj1; decide +kernel
    have n1_5 : ¬ w = 5 := fun z => by rw [z] at hj1; revert hj1; decide +kernel
    have n1_6 : ¬ w = 6 := fun z => by rw [z] at hj1; revert hj1; decide +kernel
    refine kr_iconst (v := (-1)) h dX0_count_87 (by decide) ?_
    exact kr_iret h hr hlk dX0_count_88 (by clear h hr hlk hnm; subst_vars; simp_all [xCount]) (rfl)
  · have hg1 : (j1 = 0) ∨ (j1 = 1) ∨ (j1 = 2) ∨ (j1 = 3) ∨ (j1 = 4) ∨ (j1 = 5) ∨ (j1 = 6) := by omega
    rcases hg1 with hg1 | hg1 | hg1 | hg1 | hg1 | hg1 | hg1
    · refine kr_tab h 44 dX0_count_1 (by rw [ej1, hg1]; decide +kernel) ?_
      have q1 : w = 0 := by rw [ej1, hg1]; decide +kernel
      clear hg1 ej1 hj1
      refine kr_aload_n h dX0_count_44 rfl 0 rfl ?_
      refine kr_get h FX0ok 0 11 dX0_count_45 flX0_93 rfl rfl (by decide) rfl rfl ?_
      refine kr_top h (fun v45 e45 => ?_)
      exact kr_iret h hr hlk dX0_count_48 (by clear h hr hlk hnm; subst_vars; simp_all [xCount]) (rfl)
    · refine kr_tab h 49 dX0_count_1 (by rw [ej1, hg1]; decide +kernel) ?_
      have q1 : w = 1 := by rw [ej1, hg1]; decide +kernel
      clear hg1 ej1 hj1
      refine kr_aload_n h dX0_count_49 rfl 0 rfl ?_
      refine kr_get h FX0ok 0 12 dX0_count_50 flX0_148 rfl rfl (by decide) rfl rfl ?_
      refine kr_top h (fun v50 e50 => ?_)
      exact kr_iret h hr hlk dX0_count_53 (by clear h hr hlk hnm; subst_vars; simp_all [xCount]) (rfl)
    · refine kr_tab h 54 dX0_count_1 (by rw [ej1, hg1]; decide +kernel) ?_
      have q1 : w = 2 := by rw [ej1, hg1]; decide +kernel
      clear hg1 ej1 hj1
      refine kr_aload_n h dX0_count_54 rfl 0 rfl ?_
      refine kr_get h FX0ok 0 13 dX0_count_55 flX0_156 rfl rfl (by decide) rfl rfl ?_
      refine kr_top h (fun v55 e55 => ?_)
      exact kr_iret h hr hlk dX0_count_58 (by clear h hr hlk hnm; subst_vars; simp_all [xCount]) (rfl)
    · refine kr_tab h 59 dX0_count_1 (by rw [ej1, hg1]; decide +kernel) ?_
      have q1 : w = 3 := by rw [ej1, hg1]; decide +kernel
      clear hg1 ej1 hj1
      refine kr_aload_n h dX0_count_59 rfl 0 rfl ?_
      refine kr_get h FX0ok 0 14 dX0_count_60 flX0_159 rfl rfl (by decide) rfl rfl ?_
      refine kr_top h (fun v60 e60 => ?_)
      exact kr_iret h hr hlk dX0_count_63 (by clear h hr hlk hnm; subst_vars; simp_all [xCount]) (rfl)
    · refine kr_tab h 64 dX0_count_1 (by rw [ej1, hg1]; decide +kernel) ?_
      have q1 : w = 4 := by rw [ej1, hg1]; decide +kernel
      clear hg1 ej1 hj1
      refine kr_aload_n h dX0_count_64 rfl 0 rfl ?_
      refine kr_get h FX0ok 0 15 dX0_count_65 flX0_125 rfl rfl (by decide) rfl rfl ?_
      refine kr_top h (fun v65 e65 => ?_)
      exact kr_iret h hr hlk dX0_count_68 (by clear h hr hlk hnm; subst_vars; simp_all [xCount]) (rfl)
    · refine kr_tab h 69 dX0_count_1 (by rw [ej1, hg1]; decide +kernel) ?_
      have q1 : w = 5 := by rw [ej1, hg1]; decide +kernel
      clear hg1 ej1 hj1
      refine kr_aload_n h dX0_count_69 rfl 0 rfl ?_
      refine kr_get h FX0ok 0 17 dX0_count_70 flX0_110 rfl rfl (by decide) rfl rfl ?_
      refine kr_top h (fun v70 e70 => ?_)
      refine kr_if_eq h 80 dX0_count_73 (by decide) (fun c73 => ?_) (fun c73 => ?_)
      · refine kr_iconst (v := 0) h dX0_count_80 (by decide) ?_
        exact kr_iret h hr hlk dX0_count_81 (by clear h hr hlk hnm; subst_vars; simp_all [xCount]) (rfl)
      · refine kr_iconst (v := 1) h dX0_count_76 (by decide) ?_
        refine kr_goto h 81 dX0_count_77 (by decide) ?_
        exact kr_iret h hr hlk dX0_count_81 (by clear h hr hlk hnm; subst_vars; simp_all [xCount]) (rfl)
    · refine kr_tab h 82 dX0_count_1 (by rw [ej1, hg1]; decide +kernel) ?_
      have q1 : w = 6 := by rw [ej1, hg1]; decide +kernel
      clear hg1 ej1 hj1
      refine kr_aload_n h dX0_count_82 rfl 0 rfl ?_
      refine kr_get h FX0ok 0 16 dX0_count_83 flX0_44 rfl rfl (by decide) rfl rfl ?_
      refine kr_top h (fun v83 e83 => ?_)
      exact kr_iret h hr hlk dX0_count_86 (by clear h hr hlk hnm; subst_vars; simp_all [xCount]) (rfl)
end
section
theorem ta_63 : ∀ w ∈ vx_atS "PolicyMonitor" 63 "java/lang/IllegalArgumentException" ["java/lang/RuntimeException", "java/lang/Exception"], w ∈ lw_tbl ∧ (goodWord w || (w.onTables && w.keepsFace)) = true := by decide +kernel
theorem tx_63 : kc_tx "PolicyMonitor" 59 63 "java/lang/IllegalArgumentException" := by
  refine ⟨by decide +kernel, tw_l (by decide +kernel) (by decide +kernel), tw_l (by decide +kernel) (by decide +kernel), fun w hw => ?_, by decide +kernel⟩
  obtain ⟨h1, h2⟩ := ta_63 w hw
  rcases (Bool.or_eq_true _ _).mp h2 with q | q
  · exact Or.inl (tw_l h1 q)
  · exact Or.inr (List.mem_filter.mpr ⟨h1, q⟩)
theorem ta_84 : ∀ w ∈ vx_atS "PolicyMonitor" 84 "java/lang/IllegalStateException" ["java/lang/RuntimeException", "java/lang/Exception"], w ∈ lw_tbl ∧ (goodWord w || (w.onTables && w.keepsFace)) = true := by decide +kernel
theorem tx_84 : kc_tx "PolicyMonitor" 80 84 "java/lang/IllegalStateException" := by
  refine ⟨by decide +kernel, tw_l (by decide +kernel) (by decide +kernel), tw_l (by decide +kernel) (by decide +kernel), fun w hw => ?_, by decide +kernel⟩
  obtain ⟨h1, h2⟩ := ta_84 w hw
  rcases (Bool.or_eq_true _ _).mp h2 with q | q
  · exact Or.inl (tw_l h1 q)
  · exact Or.inr (List.mem_filter.mpr ⟨h1, q⟩)
theorem ta_92 : ∀ w ∈ vx_atS "PolicyMonitor" 92 "java/lang/UnsupportedOperationException" ["java/lang/RuntimeException", "java/lang/Exception"], w ∈ lw_tbl ∧ (goodWord w || (w.onTables && w.keepsFace)) = true := by decide +kernel
theorem tx_92 : kc_tx "PolicyMonitor" 88 92 "java/lang/UnsupportedOperationException" := by
  refine ⟨by decide +kernel, tw_l (by decide +kernel) (by decide +kernel), tw_l (by decide +kernel) (by decide +kernel), fun w hw => ?_, by decide +kernel⟩
  obtain ⟨h1, h2⟩ := ta_92 w hw
  rcases (Bool.or_eq_true _ _).mp h2 with q | q
  · exact Or.inl (tw_l h1 q)
  · exact Or.inr (List.mem_filter.mpr ⟨h1, q⟩)
theorem ta_100 : ∀ w ∈ vx_atS "PolicyMonitor" 100 "java/lang/ArithmeticException" ["java/lang/RuntimeException", "java/lang/Exception"], w ∈ lw_tbl ∧ (goodWord w || (w.onTables && w.keepsFace)) = true := by decide +kernel
theorem tx_100 : kc_tx "PolicyMonitor" 96 100 "java/lang/ArithmeticException" := by
  refine ⟨by decide +kernel, tw_l (by decide +kernel) (by decide +kernel), tw_l (by decide +kernel) (by decide +kernel), fun w hw => ?_, by decide +kernel⟩
  obtain ⟨h1, h2⟩ := ta_100 w hw
  rcases (Bool.or_eq_true _ _).mp h2 with q | q
  · exact Or.inl (tw_l h1 q)
  · exact Or.inr (List.mem_filter.mpr ⟨h1, q⟩)
end
section
/-! the calls of the face that may throw -/
abbrev pTab (k t s n : Int32) : Prop := pBelow k 3 ∧ pBelow t 4 ∧ pBelow s 8 ∧ pBelow n 6
def xTabO (x : xSt) (k t s n : Int32) : Int32 ⊕ String := if pTab k t s n then .inl (x.1 8 (tn (xPlace k t s))) else .inr "java/lang/IllegalArgumentException"
def xTab (x : xSt) (k t s n : Int32) : xSt := if pTab k t s n then xPut x 8 (tn (xPlace k t s)) n else x
def xPolO (x : xSt) (k a b c : Int32) : Int32 ⊕ String :=
  if pSaid x k a b c then (if pTaken x k a b then .inr "java/lang/IllegalStateException" else if xLev x k a b ≤ 7 then (if x.2 0 < 40 then .inl (x.2 0) else .inr "java/lang/ArithmeticException") else .inr "java/lang/UnsupportedOperationException") else .inr "java/lang/IllegalArgumentException"
def xPol (x : xSt) (k a b c : Int32) : xSt := if pSaid x k a b c then (if pTaken x k a b then x else if xLev x k a b ≤ 7 then (if x.2 0 < 40 then xAdd x k a b c (xLev x k a b) else x) else x) else x
def xAskO (x : xSt) (s v : Int32) : Int32 ⊕ String := if pBelow s 8 then .inl (xKind (xNow x s v)) else .inr "java/lang/IllegalArgumentException"
def xTotO (x : xSt) (s : Int32) : Int32 ⊕ String := if pBelow s 8 then .inl (x.1 9 (tn s)) else .inr "java/lang/IllegalArgumentException"
def xDetO (x : xSt) (s v w : Int32) : Int32 ⊕ String := if pBelow s 8 ∧ pBelow w 3 then (if xKind (xNow x s v) = (if w = 2 then 3 else 2) then (if w = 1 then .inl (x.1 3 (tn (xSrc (xNow x s v)))) else .inl (x.1 2 (tn (xSrc (xNow x s v))))) else .inr "java/lang/IllegalStateException") else .inr "java/lang/IllegalArgumentException"
theorem xSo_of {s : Int32} (h : pBelow s 8) : xSo s := pBelow_nat h rfl (by decide)
theorem pTab_in {k t s n : Int32} (h : pTab k t s n) : vp_in (xPlace k t s) 96 := by
  obtain ⟨h1, h2, h3, -⟩ := h
  obtain ⟨a, q1, rfl⟩ := pBelow_nat h1 (show (3 : Int32) = nI 3 from rfl) (by decide)
  obtain ⟨b, q2, rfl⟩ := pBelow_nat h2 (show (4 : Int32) = nI 4 from rfl) (by decide)
  obtain ⟨c, q3, rfl⟩ := pBelow_nat h3 (show (8 : Int32) = nI 8 from rfl) (by decide)
  rw [xPlace_nI]
  exact vp_in_nI (by omega) (by decide)
theorem said_A {x : xSt} {k a b c : Int32} (h : pSaid x k a b c) (hA : pA k) : pBelow a (x.2 0) := by
  rcases hA with q | q | q
  · exact ((pSaid_8 q).mp h).1
  · exact (pSaid_13 q).mp h
  · exact ((pSaid_14 q).mp h).1
theorem said_B {x : xSt} {k a b c : Int32} (h : pSaid x k a b c) (hB : pB k) : pBelow b (x.2 0) := by
  rcases hB with q | q
  · exact ((pSaid_8 q).mp h).2
  · exact ((pSaid_12 q).mp h).2
theorem xN_lt {x : xSt} (h : xN x) (h2 : x.2 0 < 40) : vp_in (x.2 0) 40 := by
  obtain ⟨N, h3, h4⟩ := h
  rw [h4] at h2 ⊢
  have h5 : N < 40 := (nI_ltI (by omega) (by decide)).mp (show nI N < nI 40 from h2)
  exact vp_in_nI h5 (by decide)
theorem xNow_src {x : xSt} {s v g : Int32} (hi : xInst x) (hV : xV x) (hg : g = xNow x s v) (hk : xKind g = 3 ∨ xKind g = 2) : vp_in (xSrc g) 40 := by
  by_cases h : x.2 5 = -1
  · rw [hg, xNow, if_pos h] at hk
    exact absurd hk (by decide)
  · have h7 := hi.resolve_left h
    have his : xIs x g := by rw [hg, xNow, if_neg h]; exact xSug_is hV s v 7 _ h7
    obtain ⟨i, h1, h2, -⟩ := xIs_src his hk.symm
    rw [h2]
    exact vp_in_nI h1 (by decide)
end
section
set_option maxHeartbeats 4000000 in
set_option maxRecDepth 100000 in
theorem c_table (l : Launch) (hst : l.stackTraces = false) (D : va_G) (cI cZ cJ : ClassId) (q : Nat → Nat) (x : xSt) (k t s n : Int32) : kc_MX l yX0_table cX0_table 7 (some .int) 6 90 1 6 [.ref (q 0), .int k, .int t, .int s, .int n] D vwCl (tyL cI cZ cJ) (wX cI cZ q x) (xTabO x k t s n) (wX cI cZ q (xTab x k t s n)) := by
  refine kc_startX RX0 (by decide +kernel) rfl (Nat.le_of_ble_eq_true rfl) ?_
  intro zp ze zs zm zb zt zc h hr hlk hnh hT
  refine kr_iload_n h dX0_table_0 rfl 1 rfl ?_
  refine kr_i0 h (kc_rS h (c_isTable l D cI cZ cJ k) mlX0_48 ysX0_isTable dX0_table_1 rfl rfl ⟨Nat.le_of_ble_eq_true rfl, Nat.le_of_ble_eq_true rfl⟩ ⟨Nat.le_of_ble_eq_true rfl, Nat.le_of_ble_eq_true rfl⟩ (Nat.le_of_ble_eq_true rfl) [] rfl rfl) (fun v1 e1 => ?_)
  refine kr_if_eq h 32 dX0_table_4 (by decide) (fun c4 => ?_) (fun c4 => ?_)
  · exact kr_throw (tx := "a number is out of range") h hlk hnh hT hst tx_63 (by decide +kernel) dX0_table_32 dX0_table_35 dX0_table_36 dX0_table_38 dX0_table_41 (Nat.le_of_ble_eq_true rfl) (Nat.le_of_ble_eq_true rfl) (Nat.le_of_ble_eq_true rfl) (Nat.le_of_ble_eq_true rfl) (Nat.le_of_ble_eq_true rfl) (Nat.le_of_ble_eq_true rfl) (if_neg (fun z => by first | exact xb_f e1 c4 z.1 | exact xb_f e9 c12 z.2.1 | exact xb_f e16 c19 z.2.2.1 | exact xb_f e26 c29 z.2.2.2)) (congrArg _ (if_neg (fun z => by first | exact xb_f e1 c4 z.1 | exact xb_f e9 c12 z.2.1 | exact xb_f e16 c19 z.2.2.1 | exact xb_f e26 c29 z.2.2.2)).symm)
  · refine kr_iload_n h dX0_table_7 rfl 2 rfl ?_
    refine kr_iconst (v := 4) h dX0_table_8 (by decide) ?_
    refine kr_i0 h (kc_rS h (c_isBelow l D cI cZ cJ t 4) mlX0_52 ysX0_isBelow dX0_table_9 rfl rfl ⟨Nat.le_of_ble_eq_true rfl, Nat.le_of_ble_eq_true rfl⟩ ⟨Nat.le_of_ble_eq_true rfl, Nat.le_of_ble_eq_true rfl⟩ (Nat.le_of_ble_eq_true rfl) [] rfl rfl) (fun v9 e9 => ?_)
    refine kr_if_eq h 32 dX0_table_12 (by decide) (fun c12 => ?_) (fun c12 => ?_)
    · exact kr_throw (tx := "a number is out of range") h hlk hnh hT hst tx_63 (by decide +kernel) dX0_table_32 dX0_table_35 dX0_table_36 dX0_table_38 dX0_table_41 (Nat.le_of_ble_eq_true rfl) (Nat.le_of_ble_eq_true rfl) (Nat.le_of_ble_eq_true rfl) (Nat.le_of_ble_eq_true rfl) (Nat.le_of_ble_eq_true rfl) (Nat.le_of_ble_eq_true rfl) (if_neg (fun z => by first | exact xb_f e1 c4 z.1 | exact xb_f e9 c12 z.2.1 | exact xb_f e16 c19 z.2.2.1 | exact xb_f e26 c29 z.2.2.2)) (congrArg _ (if_neg (fun z => by first | exact xb_f e1 c4 z.1 | exact xb_f e9 c12 z.2.1 | exact xb_f e16 c19 z.2.2.1 | exact xb_f e26 c29 z.2.2.2)).symm)
    · refine kr_iload_n h dX0_table_15 rfl 3 rfl ?_
      refine kr_i0 h (kc_rS h (c_isSort l D cI cZ cJ s) mlX0_56 ysX0_isSort dX0_table_16 rfl rfl ⟨Nat.le_of_ble_eq_true rfl, Nat.le_of_ble_eq_true rfl⟩ ⟨Nat.le_of_ble_eq_true rfl, Nat.le_of_ble_eq_true rfl⟩ (Nat.le_of_ble_eq_true rfl) [] rfl rfl) (fun v16 e16 => ?_)
      refine kr_if_eq h 32 dX0_table_19 (by decide) (fun c19 => ?_) (fun c19 => ?_)
      · exact kr_throw (tx := "a number is out of range") h hlk hnh hT hst tx_63 (by decide +kernel) dX0_table_32 dX0_table_35 dX0_table_36 dX0_table_38 dX0_table_41 (Nat.le_of_ble_eq_true rfl) (Nat.le_of_ble_eq_true rfl) (Nat.le_of_ble_eq_true rfl) (Nat.le_of_ble_eq_true rfl) (Nat.le_of_ble_eq_true rfl) (Nat.le_of_ble_eq_true rfl) (if_neg (fun z => by first | exact xb_f e1 c4 z.1 | exact xb_f e9 c12 z.2.1 | exact xb_f e16 c19 z.2.2.1 | exact xb_f e26 c29 z.2.2.2)) (congrArg _ (if_neg (fun z => by first | exact xb_f e1 c4 z.1 | exact xb_f e9 c12 z.2.1 | exact xb_f e16 c19 z.2.2.1 | exact xb_f e26 c29 z.2.2.2)).symm)
      · refine kr_iload h dX0_table_22 4 rfl ?_
        refine kr_bipush (v := 6) h dX0_table_24 (by decide) ?_
        refine kr_i0 h (kc_rS h (c_isBelow l D cI cZ cJ n 6) mlX0_52 ysX0_isBelow dX0_table_26 rfl rfl ⟨Nat.le_of_ble_eq_true rfl, Nat.le_of_ble_eq_true rfl⟩ ⟨Nat.le_of_ble_eq_true rfl, Nat.le_of_ble_eq_true rfl⟩ (Nat.le_of_ble_eq_true rfl) [] rfl rfl) (fun v26 e26 => ?_)
        refine kr_if_ne h 42 dX0_table_29 (by decide) (fun c29 => ?_) (fun c29 => ?_)
        · refine kr_iload_n h dX0_table_42 rfl 1 rfl ?_
          refine kr_iload_n h dX0_table_43 rfl 2 rfl ?_
          refine kr_iload_n h dX0_table_44 rfl 3 rfl ?_
          refine kr_i0 h (kc_rS h (c_entryPlace l D cI cZ cJ k t s) mlX0_66 ysX0_entryPlace dX0_table_45 rfl rfl ⟨Nat.le_of_ble_eq_true rfl, Nat.le_of_ble_eq_true rfl⟩ ⟨Nat.le_of_ble_eq_true rfl, Nat.le_of_ble_eq_true rfl⟩ (Nat.le_of_ble_eq_true rfl) [] rfl rfl) (fun v45 e45 => ?_)
          refine kr_istore (lv' := [(5, .int v45), (0, .ref (q 0)), (1, .int k), (2, .int t), (3, .int s), (4, .int n)]) h dX0_table_48 (by decide) rfl ?_
          refine kr_aload_n h dX0_table_50 rfl 1 rfl ?_
          refine kr_get h FX0ok 0 8 dX0_table_51 flX0_35 rfl rfl (by decide) rfl rfl ?_
          refine kr_iload h dX0_table_54 0 rfl ?_
          refine kr_iald h 9 0 dX0_table_56 rfl rfl (by rw [e45]; exact pTab_in ⟨xb_t e1 c4, xb_t e9 c12, xb_t e16 c19, xb_t e26 c29⟩) (fun v56 e56 => ?_)
          refine kr_istore (lv' := [(6, .int v56), (5, .int v45), (0, .ref (q 0)), (1, .int k), (2, .int t), (3, .int s), (4, .int n)]) h dX0_table_57 (by decide) rfl ?_
          refine kr_aload_n h dX0_table_59 rfl 2 rfl ?_
          refine kr_get h FX0ok 0 8 dX0_table_60 flX0_35 rfl rfl (by decide) rfl rfl ?_
          refine kr_iload h dX0_table_63 1 rfl ?_
          refine kr_iload h dX0_table_65 6 rfl ?_
          refine kr_iast (ws' := wX cI cZ q (xA x 8 (upd (x.1 8) (tn v45) n))) h 9 0 dX0_table_67 rfl rfl (by rw [e45]; exact pTab_in ⟨xb_t e1 c4, xb_t e9 c12, xb_t e16 c19, xb_t e26 c29⟩) (wX_r8 cI cZ q x _) ?_
          refine kr_iload h dX0_table_68 0 rfl ?_
          exact kr_iretX h hr hlk dX0_table_70 (by rw [xTabO, if_pos ⟨xb_t e1 c4, xb_t e9 c12, xb_t e16 c19, xb_t e26 c29⟩, e56, e45]) (by rw [xTab, if_pos ⟨xb_t e1 c4, xb_t e9 c12, xb_t e16 c19, xb_t e26 c29⟩, e45]; rfl) (Nat.zero_le _) (Nat.zero_le _)
        · exact kr_throw (tx := "a number is out of range") h hlk hnh hT hst tx_63 (by decide +kernel) dX0_table_32 dX0_table_35 dX0_table_36 dX0_table_38 dX0_table_41 (Nat.le_of_ble_eq_true rfl) (Nat.le_of_ble_eq_true rfl) (Nat.le_of_ble_eq_true rfl) (Nat.le_of_ble_eq_true rfl) (Nat.le_of_ble_eq_true rfl) (Nat.le_of_ble_eq_true rfl) (if_neg (fun z => by first | exact xb_f e1 c4 z.1 | exact xb_f e9 c12 z.2.1 | exact xb_f e16 c19 z.2.2.1 | exact xb_f e26 c29 z.2.2.2)) (congrArg _ (if_neg (fun z => by first | exact xb_f e1 c4 z.1 | exact xb_f e9 c12 z.2.1 | exact xb_f e16 c19 z.2.2.1 | exact xb_f e26 c29 z.2.2.2)).symm)
set_option maxHeartbeats 4000000 in
set_option maxRecDepth 100000 in
theorem c_policy (l : Launch) (hst : l.stackTraces = false) (D : va_G) (cI cZ cJ : ClassId) (q : Nat → Nat) (x : xSt) (k a b c : Int32) (hN : xN x) : kc_MX l yX0_policy cX0_policy 6 (some .int) 6 90 1 6 [.ref (q 0), .int k, .int a, .int b, .int c] D vwCl (tyL cI cZ cJ) (wX cI cZ q x) (xPolO x k a b c) (wX cI cZ q (xPol x k a b c)) := by
  refine kc_startX RX0 (by decide +kernel) rfl (Nat.le_of_ble_eq_true rfl) ?_
  intro zp ze zs zm zb zt zc h hr hlk hnh hT
  refine kr_aload_n h dX0_policy_0 rfl 0 rfl ?_
  refine kr_iload_n h dX0_policy_1 rfl 1 rfl ?_
  refine kr_iload_n h dX0_policy_2 rfl 2 rfl ?_
  refine kr_iload_n h dX0_policy_3 rfl 3 rfl ?_
  refine kr_iload h dX0_policy_4 4 rfl ?_
  refine kr_iA h (kc_rV h (c_isAsSaid l D cI cZ cJ q x k a b c) mlX0_70 yvX0_isAsSaid dX0_policy_6 rfl rfl ⟨Nat.le_of_ble_eq_true rfl, Nat.le_of_ble_eq_true rfl⟩ ⟨Nat.le_of_ble_eq_true rfl, Nat.le_of_ble_eq_true rfl⟩ (Nat.le_of_ble_eq_true rfl) [0, 1, 2, 3, 4, 5, 6, 7, 8, 9, 10, 11] rfl rfl 0 rfl rfl rfl) (fun v6 e6 => ?_)
  refine kr_if_ne h 22 dX0_policy_9 (by decide) (fun c9 => ?_) (fun c9 => ?_)
  · refine kr_aload_n h dX0_policy_22 rfl 0 rfl ?_
    refine kr_iload_n h dX0_policy_23 rfl 1 rfl ?_
    refine kr_iload_n h dX0_policy_24 rfl 2 rfl ?_
    refine kr_iload_n h dX0_policy_25 rfl 3 rfl ?_
    refine kr_iA h (kc_rV h (c_isTaken l D cI cZ cJ q x k a b (fun z => xN_in hN (said_A (xb_t e6 c9) z)) (fun z => xN_in hN (said_B (xb_t e6 c9) z))) mlX0_76 yvX0_isTaken dX0_policy_26 rfl rfl ⟨Nat.le_of_ble_eq_true rfl, Nat.le_of_ble_eq_true rfl⟩ ⟨Nat.le_of_ble_eq_true rfl, Nat.le_of_ble_eq_true rfl⟩ (Nat.le_of_ble_eq_true rfl) [0, 1, 2, 3, 4, 5, 6, 7, 8, 9, 10, 11] rfl rfl 0 rfl rfl rfl) (fun v26 e26 => ?_)
    refine kr_if_eq h 42 dX0_policy_29 (by decide) (fun c29 => ?_) (fun c29 => ?_)
    · refine kr_aload_n h dX0_policy_42 rfl 0 rfl ?_
      refine kr_iload_n h dX0_policy_43 rfl 1 rfl ?_
      refine kr_iload_n h dX0_policy_44 rfl 2 rfl ?_
      refine kr_iload_n h dX0_policy_45 rfl 3 rfl ?_
      refine kr_iA h (kc_rV h (c_levelAbove l D cI cZ cJ q x k a b (fun z => xN_in hN (said_A (xb_t e6 c9) z)) (fun z => xN_in hN (said_B (xb_t e6 c9) z))) mlX0_85 yvX0_levelAbove dX0_policy_46 rfl rfl ⟨Nat.le_of_ble_eq_true rfl, Nat.le_of_ble_eq_true rfl⟩ ⟨Nat.le_of_ble_eq_true rfl, Nat.le_of_ble_eq_true rfl⟩ (Nat.le_of_ble_eq_true rfl) [0, 1, 2, 3, 4, 5, 6, 7, 8, 9, 10, 11] rfl rfl 0 rfl rfl rfl) (fun v46 e46 => ?_)
      refine kr_istore (lv' := [(5, .int v46), (0, .ref (q 0)), (1, .int k), (2, .int a), (3, .int b), (4, .int c)]) h dX0_policy_49 (by decide) rfl ?_
      refine kr_iload h dX0_policy_51 0 rfl ?_
      refine kr_bipush (v := 7) h dX0_policy_53 (by decide) ?_
      refine kr_icmp_le h 68 dX0_policy_55 (by decide) (fun c55 => ?_) (fun c55 => ?_)
      · refine kr_aload_n h dX0_policy_68 rfl 1 rfl ?_
        refine kr_get h FX0ok 0 11 dX0_policy_69 flX0_93 rfl rfl (by decide) rfl rfl ?_
        refine kr_top h (fun v69 e69 => ?_)
        refine kr_bipush (v := 40) h dX0_policy_72 (by decide) ?_
        refine kr_icmp_lt h 87 dX0_policy_74 (by decide) (fun c74 => ?_) (fun c74 => ?_)
        · refine kr_aload_n h dX0_policy_87 rfl 1 rfl ?_
          refine kr_iload_n h dX0_policy_88 rfl 2 rfl ?_
          refine kr_iload_n h dX0_policy_89 rfl 3 rfl ?_
          refine kr_iload_n h dX0_policy_90 rfl 4 rfl ?_
          refine kr_iload h dX0_policy_91 5 rfl ?_
          refine kr_iload h dX0_policy_93 0 rfl ?_
          refine kr_iA h (kc_rV h (c_addPolicy l D cI cZ cJ q x k a b c v46 (xN_lt hN (by rw [← e69]; exact c74)) (fun z => xN_in hN (said_A (xb_t e6 c9) z)) (fun z => xN_in hN (said_B (xb_t e6 c9) z))) mlX0_101 yvX0_addPolicy dX0_policy_95 rfl rfl ⟨Nat.le_of_ble_eq_true rfl, Nat.le_of_ble_eq_true rfl⟩ ⟨Nat.le_of_ble_eq_true rfl, Nat.le_of_ble_eq_true rfl⟩ (Nat.le_of_ble_eq_true rfl) [0, 1, 2, 3, 4, 5, 6, 7, 8, 9, 10, 11] rfl rfl 0 rfl rfl rfl) (fun v95 e95 => ?_)
          exact kr_iretX h hr hlk dX0_policy_98 (((if_pos (xb_t e6 c9)).trans ((if_neg (xb_f e26 c29)).trans ((if_pos (by rw [← e46]; exact c55)).trans (if_pos (by rw [← e69]; exact c74))))).trans (congrArg _ e95.symm)) ((congrArg _ (by rw [e46])).trans (congrArg _ ((if_pos (xb_t e6 c9)).trans ((if_neg (xb_f e26 c29)).trans ((if_pos (by rw [← e46]; exact c55)).trans (if_pos (by rw [← e69]; exact c74))))).symm)) (Nat.zero_le _) (Nat.zero_le _)
        · exact kr_throw (tx := "there are too many policies") h hlk hnh hT hst tx_100 (by decide +kernel) dX0_policy_77 dX0_policy_80 dX0_policy_81 dX0_policy_83 dX0_policy_86 (Nat.le_of_ble_eq_true rfl) (Nat.le_of_ble_eq_true rfl) (Nat.le_of_ble_eq_true rfl) (Nat.le_of_ble_eq_true rfl) (Nat.le_of_ble_eq_true rfl) (Nat.le_of_ble_eq_true rfl) ((if_pos (xb_t e6 c9)).trans ((if_neg (xb_f e26 c29)).trans ((if_pos (by rw [← e46]; exact c55)).trans (if_neg (by rw [← e69]; exact c74))))) (congrArg _ ((if_pos (xb_t e6 c9)).trans ((if_neg (xb_f e26 c29)).trans ((if_pos (by rw [← e46]; exact c55)).trans (if_neg (by rw [← e69]; exact c74))))).symm)
      · exact kr_throw (tx := "the level is too high") h hlk hnh hT hst tx_92 (by decide +kernel) dX0_policy_58 dX0_policy_61 dX0_policy_62 dX0_policy_64 dX0_policy_67 (Nat.le_of_ble_eq_true rfl) (Nat.le_of_ble_eq_true rfl) (Nat.le_of_ble_eq_true rfl) (Nat.le_of_ble_eq_true rfl) (Nat.le_of_ble_eq_true rfl) (Nat.le_of_ble_eq_true rfl) ((if_pos (xb_t e6 c9)).trans ((if_neg (xb_f e26 c29)).trans (if_neg (by rw [← e46]; exact c55)))) (congrArg _ ((if_pos (xb_t e6 c9)).trans ((if_neg (xb_f e26 c29)).trans (if_neg (by rw [← e46]; exact c55)))).symm)
    · exact kr_throw (tx := "an operand is used already") h hlk hnh hT hst tx_84 (by decide +kernel) dX0_policy_32 dX0_policy_35 dX0_policy_36 dX0_policy_38 dX0_policy_41 (Nat.le_of_ble_eq_true rfl) (Nat.le_of_ble_eq_true rfl) (Nat.le_of_ble_eq_true rfl) (Nat.le_of_ble_eq_true rfl) (Nat.le_of_ble_eq_true rfl) (Nat.le_of_ble_eq_true rfl) ((if_pos (xb_t e6 c9)).trans (if_pos (xb_t e26 c29))) (congrArg _ ((if_pos (xb_t e6 c9)).trans (if_pos (xb_t e26 c29))).symm)
  · exact kr_throw (tx := "no such kind, or an operand is not as said") h hlk hnh hT hst tx_63 (by decide +kernel) dX0_policy_12 dX0_policy_15 dX0_policy_16 dX0_policy_18 dX0_policy_21 (Nat.le_of_ble_eq_true rfl) (Nat.le_of_ble_eq_true rfl) (Nat.le_of_ble_eq_true rfl) (Nat.le_of_ble_eq_true rfl) (Nat.le_of_ble_eq_true rfl) (Nat.le_of_ble_eq_true rfl) (if_neg (xb_f e6 c9)) (congrArg _ (if_neg (xb_f e6 c9)).symm)
set_option maxHeartbeats 4000000 in
set_option maxRecDepth 100000 in
theorem c_ask (l : Launch) (hst : l.stackTraces = false) (D : va_G) (cI cZ cJ : ClassId) (q : Nat → Nat) (x : xSt) (s v : Int32) (hi : xInst x) : kc_MX l yX0_ask cX0_ask 3 (some .int) 18 479 1 6 [.ref (q 0), .int s, .int v] D vwCl (tyL cI cZ cJ) (wX cI cZ q x) (xAskO x s v) (wX cI cZ q (x)) := by
  refine kc_startX RX0 (by decide +kernel) rfl (Nat.le_of_ble_eq_true rfl) ?_
  intro zp ze zs zm zb zt zc h hr hlk hnh hT
  refine kr_iload_n h dX0_ask_0 rfl 1 rfl ?_
  refine kr_i0 h (kc_rS h (c_isSort l D cI cZ cJ s) mlX0_56 ysX0_isSort dX0_ask_1 rfl rfl ⟨Nat.le_of_ble_eq_true rfl, Nat.le_of_ble_eq_true rfl⟩ ⟨Nat.le_of_ble_eq_true rfl, Nat.le_of_ble_eq_true rfl⟩ (Nat.le_of_ble_eq_true rfl) [] rfl rfl) (fun v1 e1 => ?_)
  refine kr_if_ne h 17 dX0_ask_4 (by decide) (fun c4 => ?_) (fun c4 => ?_)
  · refine kr_aload_n h dX0_ask_17 rfl 0 rfl ?_
    refine kr_iload_n h dX0_ask_18 rfl 1 rfl ?_
    refine kr_iload_n h dX0_ask_19 rfl 2 rfl ?_
    refine kr_iA h (kc_rV h (c_suggestNow l D cI cZ cJ q x s v (hi) (xSo_of (xb_t e1 c4))) mlX0_133 yvX0_suggestNow dX0_ask_20 rfl rfl ⟨Nat.le_of_ble_eq_true rfl, Nat.le_of_ble_eq_true rfl⟩ ⟨Nat.le_of_ble_eq_true rfl, Nat.le_of_ble_eq_true rfl⟩ (Nat.le_of_ble_eq_true rfl) [0, 1, 2, 3, 4, 5, 6, 7, 8, 9, 10, 11] rfl rfl 0 rfl rfl rfl) (fun v20 e20 => ?_)
    refine kr_i0 h (kc_rS h (c_kindOf l D cI cZ cJ v20) mlX0_137 ysX0_kindOf dX0_ask_23 rfl rfl ⟨Nat.le_of_ble_eq_true rfl, Nat.le_of_ble_eq_true rfl⟩ ⟨Nat.le_of_ble_eq_true rfl, Nat.le_of_ble_eq_true rfl⟩ (Nat.le_of_ble_eq_true rfl) [] rfl rfl) (fun v23 e23 => ?_)
    exact kr_iretX h hr hlk dX0_ask_26 ((if_pos (xb_t e1 c4)).trans (by rw [e23, e20])) (rfl) (Nat.zero_le _) (Nat.zero_le _)
  · exact kr_throw (tx := "no such sort") h hlk hnh hT hst tx_63 (by decide +kernel) dX0_ask_7 dX0_ask_10 dX0_ask_11 dX0_ask_13 dX0_ask_16 (Nat.le_of_ble_eq_true rfl) (Nat.le_of_ble_eq_true rfl) (Nat.le_of_ble_eq_true rfl) (Nat.le_of_ble_eq_true rfl) (Nat.le_of_ble_eq_true rfl) (Nat.le_of_ble_eq_true rfl) (if_neg (xb_f e1 c4)) (rfl)
set_option maxHeartbeats 4000000 in
set_option maxRecDepth 100000 in
theorem c_total (l : Launch) (hst : l.stackTraces = false) (D : va_G) (cI cZ cJ : ClassId) (q : Nat → Nat) (x : xSt) (s : Int32) : kc_MX l yX0_total cX0_total 2 (some .int) 6 90 1 6 [.ref (q 0), .int s] D vwCl (tyL cI cZ cJ) (wX cI cZ q x) (xTotO x s) (wX cI cZ q (x)) := by
  refine kc_startX RX0 (by decide +kernel) rfl (Nat.le_of_ble_eq_true rfl) ?_
  intro zp ze zs zm zb zt zc h hr hlk hnh hT
  refine kr_iload_n h dX0_total_0 rfl 1 rfl ?_
  refine kr_i0 h (kc_rS h (c_isSort l D cI cZ cJ s) mlX0_56 ysX0_isSort dX0_total_1 rfl rfl ⟨Nat.le_of_ble_eq_true rfl, Nat.le_of_ble_eq_true rfl⟩ ⟨Nat.le_of_ble_eq_true rfl, Nat.le_of_ble_eq_true rfl⟩ (Nat.le_of_ble_eq_true rfl) [] rfl rfl) (fun v1 e1 => ?_)
  refine kr_if_ne h 17 dX0_total_4 (by decide) (fun c4 => ?_) (fun c4 => ?_)
  · refine kr_aload_n h dX0_total_17 rfl 0 rfl ?_
    refine kr_get h FX0ok 0 9 dX0_total_18 flX0_38 rfl rfl (by decide) rfl rfl ?_
    refine kr_iload_n h dX0_total_21 rfl 1 rfl ?_
    refine kr_iald h 10 0 dX0_total_22 rfl rfl (xSo_in (xSo_of (xb_t e1 c4))) (fun v22 e22 => ?_)
    exact kr_iretX h hr hlk dX0_total_23 ((if_pos (xb_t e1 c4)).trans (by rw [e22])) (rfl) (Nat.zero_le _) (Nat.zero_le _)
  · exact kr_throw (tx := "no such sort") h hlk hnh hT hst tx_63 (by decide +kernel) dX0_total_7 dX0_total_10 dX0_total_11 dX0_total_13 dX0_total_16 (Nat.le_of_ble_eq_true rfl) (Nat.le_of_ble_eq_true rfl) (Nat.le_of_ble_eq_true rfl) (Nat.le_of_ble_eq_true rfl) (Nat.le_of_ble_eq_true rfl) (Nat.le_of_ble_eq_true rfl) (if_neg (xb_f e1 c4)) (rfl)
set_option maxHeartbeats 4000000 in
set_option maxRecDepth 100000 in
theorem c_detail (l : Launch) (hst : l.stackTraces = false) (D : va_G) (cI cZ cJ : ClassId) (q : Nat → Nat) (x : xSt) (s v w : Int32) (hi : xInst x) (hV : xV x) : kc_MX l yX0_detail cX0_detail 7 (some .int) 18 479 1 6 [.ref (q 0), .int s, .int v, .int w] D vwCl (tyL cI cZ cJ) (wX cI cZ q x) (xDetO x s v w) (wX cI cZ q (x)) := by
  refine kc_startX RX0 (by decide +kernel) rfl (Nat.le_of_ble_eq_true rfl) ?_
  intro zp ze zs zm zb zt zc h hr hlk hnh hT
  refine kr_iload_n h dX0_detail_0 rfl 1 rfl ?_
  refine kr_i0 h (kc_rS h (c_isSort l D cI cZ cJ s) mlX0_56 ysX0_isSort dX0_detail_1 rfl rfl ⟨Nat.le_of_ble_eq_true rfl, Nat.le_of_ble_eq_true rfl⟩ ⟨Nat.le_of_ble_eq_true rfl, Nat.le_of_ble_eq_true rfl⟩ (Nat.le_of_ble_eq_true rfl) [] rfl rfl) (fun v1 e1 => ?_)
  refine kr_if_eq h 15 dX0_detail_4 (by decide) (fun c4 => ?_) (fun c4 => ?_)
  · exact kr_throw (tx := "no such sort or what") h hlk hnh hT hst tx_63 (by decide +kernel) dX0_detail_15 dX0_detail_18 dX0_detail_19 dX0_detail_21 dX0_detail_24 (Nat.le_of_ble_eq_true rfl) (Nat.le_of_ble_eq_true rfl) (Nat.le_of_ble_eq_true rfl) (Nat.le_of_ble_eq_true rfl) (Nat.le_of_ble_eq_true rfl) (Nat.le_of_ble_eq_true rfl) (if_neg (fun z => by first | exact xb_f e1 c4 z.1 | exact xb_f e9 c12 z.2)) (rfl)
  · refine kr_iload_n h dX0_detail_7 rfl 3 rfl ?_
    refine kr_iconst (v := 3) h dX0_detail_8 (by decide) ?_
    refine kr_i0 h (kc_rS h (c_isBelow l D cI cZ cJ w 3) mlX0_52 ysX0_isBelow dX0_detail_9 rfl rfl ⟨Nat.le_of_ble_eq_true rfl, Nat.le_of_ble_eq_true rfl⟩ ⟨Nat.le_of_ble_eq_true rfl, Nat.le_of_ble_eq_true rfl⟩ (Nat.le_of_ble_eq_true rfl) [] rfl rfl) (fun v9 e9 => ?_)
    refine kr_if_ne h 25 dX0_detail_12 (by decide) (fun c12 => ?_) (fun c12 => ?_)
    · refine kr_aload_n h dX0_detail_25 rfl 0 rfl ?_
      refine kr_iload_n h dX0_detail_26 rfl 1 rfl ?_
      refine kr_iload_n h dX0_detail_27 rfl 2 rfl ?_
      refine kr_iA h (kc_rV h (c_suggestNow l D cI cZ cJ q x s v (hi) (xSo_of (xb_t e1 c4))) mlX0_133 yvX0_suggestNow dX0_detail_28 rfl rfl ⟨Nat.le_of_ble_eq_true rfl, Nat.le_of_ble_eq_true rfl⟩ ⟨Nat.le_of_ble_eq_true rfl, Nat.le_of_ble_eq_true rfl⟩ (Nat.le_of_ble_eq_true rfl) [0, 1, 2, 3, 4, 5, 6, 7, 8, 9, 10, 11] rfl rfl 0 rfl rfl rfl) (fun v28 e28 => ?_)
      refine kr_istore (lv' := [(4, .int v28), (0, .ref (q 0)), (1, .int s), (2, .int v), (3, .int w)]) h dX0_detail_31 (by decide) rfl ?_
      refine kr_iload_n h dX0_detail_33 rfl 4 rfl ?_
      refine kr_iconst (v := 2) h dX0_detail_34 (by decide) ?_
      refine kr_icmp_ne h 42 dX0_detail_35 (by decide) (fun c35 => ?_) (fun c35 => ?_)
      · refine kr_iconst (v := 2) h dX0_detail_42 (by decide) ?_
        refine kr_istore (lv' := [(5, .int 2), (4, .int v28), (0, .ref (q 0)), (1, .int s), (2, .int v), (3, .int w)]) h dX0_detail_43 (by decide) rfl ?_
        refine kr_iload h dX0_detail_45 1 rfl ?_
        refine kr_i0 h (kc_rS h (c_kindOf l D cI cZ cJ v28) mlX0_137 ysX0_kindOf dX0_detail_47 rfl rfl ⟨Nat.le_of_ble_eq_true rfl, Nat.le_of_ble_eq_true rfl⟩ ⟨Nat.le_of_ble_eq_true rfl, Nat.le_of_ble_eq_true rfl⟩ (Nat.le_of_ble_eq_true rfl) [] rfl rfl) (fun v47 e47 => ?_)
        refine kr_iload h dX0_detail_50 0 rfl ?_
        refine kr_icmp_eq h 65 dX0_detail_52 (by decide) (fun c52 => ?_) (fun c52 => ?_)
        · refine kr_iload h dX0_detail_65 1 rfl ?_
          refine kr_i0 h (kc_rS h (c_sourceOf l D cI cZ cJ v28) mlX0_145 ysX0_sourceOf dX0_detail_67 rfl rfl ⟨Nat.le_of_ble_eq_true rfl, Nat.le_of_ble_eq_true rfl⟩ ⟨Nat.le_of_ble_eq_true rfl, Nat.le_of_ble_eq_true rfl⟩ (Nat.le_of_ble_eq_true rfl) [] rfl rfl) (fun v67 e67 => ?_)
          refine kr_istore (lv' := [(6, .int v67), (5, .int 2), (4, .int v28), (0, .ref (q 0)), (1, .int s), (2, .int v), (3, .int w)]) h dX0_detail_70 (by decide) rfl ?_
          refine kr_iload_n h dX0_detail_72 rfl 6 rfl ?_
          refine kr_iconst (v := 1) h dX0_detail_73 (by decide) ?_
          refine kr_icmp_ne h 87 dX0_detail_74 (by decide) (fun c74 => ?_) (fun c74 => ?_)
          · refine kr_aload_n h dX0_detail_87 rfl 3 rfl ?_
            refine kr_get h FX0ok 0 2 dX0_detail_88 flX0_16 rfl rfl (by decide) rfl rfl ?_
            refine kr_iload h dX0_detail_91 0 rfl ?_
            refine kr_iald h 3 0 dX0_detail_93 rfl rfl (by rw [e67]; exact xNow_src hi hV e28 (by rw [← e47]; first | exact Or.inl c52 | exact Or.inr c52)) (fun v93 e93 => ?_)
            exact kr_iretX h hr hlk dX0_detail_94 ((if_pos ⟨xb_t e1 c4, xb_t e9 c12⟩).trans ((if_pos (by rw [← e28, ← e47, c52]; first | rw [if_pos c35] | rw [if_neg c35])).trans (by first | rw [if_pos c74, e83, e67, e28] | rw [if_neg c74, e93, e67, e28]))) (rfl) (Nat.zero_le _) (Nat.zero_le _)
          · refine kr_aload_n h dX0_detail_77 rfl 3 rfl ?_
            refine kr_get h FX0ok 0 3 dX0_detail_78 flX0_19 rfl rfl (by decide) rfl rfl ?_
            refine kr_iload h dX0_detail_81 0 rfl ?_
            refine kr_iald h 4 0 dX0_detail_83 rfl rfl (by rw [e67]; exact xNow_src hi hV e28 (by rw [← e47]; first | exact Or.inl c52 | exact Or.inr c52)) (fun v83 e83 => ?_)
            refine kr_goto h 94 dX0_detail_84 (by decide) ?_
            exact kr_iretX h hr hlk dX0_detail_94 ((if_pos ⟨xb_t e1 c4, xb_t e9 c12⟩).trans ((if_pos (by rw [← e28, ← e47, c52]; first | rw [if_pos c35] | rw [if_neg c35])).trans (by first | rw [if_pos c74, e83, e67, e28] | rw [if_neg c74, e93, e67, e28]))) (rfl) (Nat.zero_le _) (Nat.zero_le _)
        · exact kr_throw (tx := "the suggestion is of another kind") h hlk hnh hT hst tx_84 (by decide +kernel) dX0_detail_55 dX0_detail_58 dX0_detail_59 dX0_detail_61 dX0_detail_64 (Nat.le_of_ble_eq_true rfl) (Nat.le_of_ble_eq_true rfl) (Nat.le_of_ble_eq_true rfl) (Nat.le_of_ble_eq_true rfl) (Nat.le_of_ble_eq_true rfl) (Nat.le_of_ble_eq_true rfl) ((if_pos ⟨xb_t e1 c4, xb_t e9 c12⟩).trans (if_neg (fun z => c52 (by rw [e47, e28, z]; first | rw [if_pos c35] | rw [if_neg c35])))) (rfl)
      · refine kr_iconst (v := 3) h dX0_detail_38 (by decide) ?_
        refine kr_goto h 43 dX0_detail_39 (by decide) ?_
        refine kr_istore (lv' := [(5, .int 3), (4, .int v28), (0, .ref (q 0)), (1, .int s), (2, .int v), (3, .int w)]) h dX0_detail_43 (by decide) rfl ?_
        refine kr_iload h dX0_detail_45 1 rfl ?_
        refine kr_i0 h (kc_rS h (c_kindOf l D cI cZ cJ v28) mlX0_137 ysX0_kindOf dX0_detail_47 rfl rfl ⟨Nat.le_of_ble_eq_true rfl, Nat.le_of_ble_eq_true rfl⟩ ⟨Nat.le_of_ble_eq_true rfl, Nat.le_of_ble_eq_true rfl⟩ (Nat.le_of_ble_eq_true rfl) [] rfl rfl) (fun v47 e47 => ?_)
        refine kr_iload h dX0_detail_50 0 rfl ?_
        refine kr_icmp_eq h 65 dX0_detail_52 (by decide) (fun c52 => ?_) (fun c52 => ?_)
        · refine kr_iload h dX0_detail_65 1 rfl ?_
          refine kr_i0 h (kc_rS h (c_sourceOf l D cI cZ cJ v28) mlX0_145 ysX0_sourceOf dX0_detail_67 rfl rfl ⟨Nat.le_of_ble_eq_true rfl, Nat.le_of_ble_eq_true rfl⟩ ⟨Nat.le_of_ble_eq_true rfl, Nat.le_of_ble_eq_true rfl⟩ (Nat.le_of_ble_eq_true rfl) [] rfl rfl) (fun v67 e67 => ?_)
          refine kr_istore (lv' := [(6, .int v67), (5, .int 3), (4, .int v28), (0, .ref (q 0)), (1, .int s), (2, .int v), (3, .int w)]) h dX0_detail_70 (by decide) rfl ?_
          refine kr_iload_n h dX0_detail_72 rfl 6 rfl ?_
          refine kr_iconst (v := 1) h dX0_detail_73 (by decide) ?_
          refine kr_icmp_ne h 87 dX0_detail_74 (by decide) (fun c74 => ?_) (fun c74 => ?_)
          · refine kr_aload_n h dX0_detail_87 rfl 3 rfl ?_
            refine kr_get h FX0ok 0 2 dX0_detail_88 flX0_16 rfl rfl (by decide) rfl rfl ?_
            refine kr_iload h dX0_detail_91 0 rfl ?_
            refine kr_iald h 3 0 dX0_detail_93 rfl rfl (by rw [e67]; exact xNow_src hi hV e28 (by rw [← e47]; first | exact Or.inl c52 | exact Or.inr c52)) (fun v93 e93 => ?_)
            exact kr_iretX h hr hlk dX0_detail_94 ((if_pos ⟨xb_t e1 c4, xb_t e9 c12⟩).trans ((if_pos (by rw [← e28, ← e47, c52]; first | rw [if_pos c35] | rw [if_neg c35])).trans (by first | rw [if_pos c74, e83, e67, e28] | rw [if_neg c74, e93, e67, e28]))) (rfl) (Nat.zero_le _) (Nat.zero_le _)
          · refine kr_aload_n h dX0_detail_77 rfl 3 rfl ?_
            refine kr_get h FX0ok 0 3 dX0_detail_78 flX0_19 rfl rfl (by decide) rfl rfl ?_
            refine kr_iload h dX0_detail_81 0 rfl ?_
            refine kr_iald h 4 0 dX0_detail_83 rfl rfl (by rw [e67]; exact xNow_src hi hV e28 (by rw [← e47]; first | exact Or.inl c52 | exact Or.inr c52)) (fun v83 e83 => ?_)
            refine kr_goto h 94 dX0_detail_84 (by decide) ?_
            exact kr_iretX h hr hlk dX0_detail_94 ((if_pos ⟨xb_t e1 c4, xb_t e9 c12⟩).trans ((if_pos (by rw [← e28, ← e47, c52]; first | rw [if_pos c35] | rw [if_neg c35])).trans (by first | rw [if_pos c74, e83, e67, e28] | rw [if_neg c74, e93, e67, e28]))) (rfl) (Nat.zero_le _) (Nat.zero_le _)
        · exact kr_throw (tx := "the suggestion is of another kind") h hlk hnh hT hst tx_84 (by decide +kernel) dX0_detail_55 dX0_detail_58 dX0_detail_59 dX0_detail_61 dX0_detail_64 (Nat.le_of_ble_eq_true rfl) (Nat.le_of_ble_eq_true rfl) (Nat.le_of_ble_eq_true rfl) (Nat.le_of_ble_eq_true rfl) (Nat.le_of_ble_eq_true rfl) (Nat.le_of_ble_eq_true rfl) ((if_pos ⟨xb_t e1 c4, xb_t e9 c12⟩).trans (if_neg (fun z => c52 (by rw [e47, e28, z]; first | rw [if_pos c35] | rw [if_neg c35])))) (rfl)
    · exact kr_throw (tx := "no such sort or what") h hlk hnh hT hst tx_63 (by decide +kernel) dX0_detail_15 dX0_detail_18 dX0_detail_19 dX0_detail_21 dX0_detail_24 (Nat.le_of_ble_eq_true rfl) (Nat.le_of_ble_eq_true rfl) (Nat.le_of_ble_eq_true rfl) (Nat.le_of_ble_eq_true rfl) (Nat.le_of_ble_eq_true rfl) (Nat.le_of_ble_eq_true rfl) (if_neg (fun z => by first | exact xb_f e1 c4 z.1 | exact xb_f e9 c12 z.2)) (rfl)
end
section
/-! install and act -/
def xIns (x : xSt) (p : Int32) : xSt := xI (xI x 5 p) 6 0
def xInsO (x : xSt) (p : Int32) : Int32 ⊕ String := if pBelow p (x.2 0) then .inl 0 else .inr "java/lang/IllegalArgumentException"
def xInsX (x : xSt) (p : Int32) : xSt := if pBelow p (x.2 0) then xA (xIns x p) 6 (xZ (x.1 6)) else x
def xActR (x : xSt) (s v : Int32) : Int32 × xSt := if x.2 6 = 0 then xAct 4 x s v else (2, x)
def xFin (r : Int32 × xSt) : xSt := xA r.2 7 (xZ (r.2.1 7))
def xThr (r : Int32 × xSt) : xSt := xI (xFin r) 4 ((xFin r).2 4 + 1)
def xActO (x : xSt) (s v : Int32) : Int32 ⊕ String :=
  if pBelow s 8 then (if (xActR x s v).1 = 0 then .inl ((xFin (xActR x s v)).2 7) else if (xActR x s v).1 = 2 then .inr "java/lang/UnsupportedOperationException" else if (xActR x s v).1 = 1 then .inr "java/lang/IllegalStateException" else .inr "java/lang/ArithmeticException") else .inr "java/lang/IllegalArgumentException"
def xActX (x : xSt) (s v : Int32) : xSt :=
  if pBelow s 8 then (if (xActR x s v).1 = 0 then xFin (xActR x s v) else if (xActR x s v).1 = 2 then xI (xThr (xActR x s v)) 6 1 else xThr (xActR x s v)) else x
theorem xAct_a {x : xSt} {s v : Int32} {r : Int32 × xSt} (hs : pBelow s 8) (hr : xActR x s v = r) (h : r.1 = 0) : xActO x s v = .inl ((xFin r).2 7) ∧ xActX x s v = xFin r := by
  subst hr
  exact ⟨by rw [xActO, if_pos hs, if_pos h], by rw [xActX, if_pos hs, if_pos h]⟩
theorem xAct_b {x : xSt} {s v : Int32} {r : Int32 × xSt} (hs : pBelow s 8) (hr : xActR x s v = r) (h : r.1 = 2) : xActO x s v = .inr "java/lang/UnsupportedOperationException" ∧ xActX x s v = xI (xThr r) 6 1 := by
  subst hr
  have h0 : ¬ (xActR x s v).1 = 0 := by rw [h]; decide
  exact ⟨by rw [xActO, if_pos hs, if_neg h0, if_pos h], by rw [xActX, if_pos hs, if_neg h0, if_pos h]⟩
theorem xAct_c {x : xSt} {s v : Int32} {r : Int32 × xSt} (hs : pBelow s 8) (hr : xActR x s v = r) (h0 : ¬ r.1 = 0) (h2 : ¬ r.1 = 2) : xActO x s v = (if r.1 = 1 then .inr "java/lang/IllegalStateException" else .inr "java/lang/ArithmeticException") ∧ xActX x s v = xThr r := by
  subst hr
  exact ⟨by rw [xActO, if_pos hs, if_neg h0, if_neg h2], by rw [xActX, if_pos hs, if_neg h0, if_neg h2]⟩
end
section
set_option maxHeartbeats 4000000 in
set_option maxRecDepth 100000 in
theorem lp_install {p : Program} {l : Launch} {e : Env} {R : Room} {s : State} {m : MethodId} {args : Array Value} {below : List Frame} {meth : Method} {c : Code} {Q : State → Prop} {D : va_G} {cI cZ cJ : ClassId} {q : Nat → Nat} {A : Nat → Prop} {u : Nat × Nat} {p1 : Int32} (h : kc_C p s m args c cX0_install 3 RX0 D vwCl (tyL cI cZ cJ) A) (x : xSt) (kk : ∀ i : Int32, kc_W p l e R s m args below meth c D vwCl A 3 Q 49 [(2, .int i), (0, .ref (q 0)), (1, .int p1)] [] (wX cI cZ q (xA x 6 (xZ (x.1 6)))) u) : ∀ (n k : Nat) (i : Int32) (f : Nat → Int32), i = nI k → k ≤ 40 → 40 - k < n → (∀ j, j < k → f j = 0) → (∀ j, k ≤ j → f j = x.1 6 j) → kc_W p l e R s m args below meth c D vwCl A 3 Q 30 [(2, .int i), (0, .ref (q 0)), (1, .int p1)] [] (wX cI cZ q (xA x 6 f)) u := by
  intro n
  induction n with
  | zero => intro k i f _ _ h; exact absurd h (by omega)
  | succ n ih =>
    intro k i f hi hk hn h0 h1
    refine kr_iload_n h dX0_install_30 rfl 0 rfl ?_
    refine kr_bipush (v := 40) h dX0_install_31 (by decide) ?_
    refine kr_icmp_ge h 49 dX0_install_33 (by decide) (fun c33 => ?_) (fun c33 => ?_)
    · have hk40 : k = 40 := by
        rcases Nat.lt_or_ge k 40 with z | z
        · exact absurd (by rw [hi] at c33; exact c33) (nI_ge z (by decide))
        · omega
      have hf : f = xZ (x.1 6) := funext fun j => by
        unfold xZ
        split
        · exact h0 j (by omega)
        · exact h1 j (by omega)
      rw [hf]
      exact kk i
    · have hk40 : k < 40 := by
        rcases Nat.lt_or_ge k 40 with z | z
        · exact z
        · exact absurd (by rw [hi]; exact nI_le z (by omega)) c33
      refine kr_aload_n h dX0_install_36 rfl 1 rfl ?_
      refine kr_get h FX0ok 0 6 dX0_install_37 flX0_29 rfl rfl (by decide) rfl rfl ?_
      refine kr_iload_n h dX0_install_40 rfl 0 rfl ?_
      refine kr_iconst (v := 0) h dX0_install_41 (by decide) ?_
      refine kr_iast (ws' := wX cI cZ q (xA (xA x 6 f) 6 (upd ((xA x 6 f).1 6) (tn i) 0))) h 7 0 dX0_install_42 rfl rfl (by rw [hi]; exact vp_in_nI (by omega) (by decide)) (wX_r6 cI cZ q (xA x 6 f) _) ?_
      obtain ⟨v43, e43⟩ : ∃ z : Int32, z = i + 1 := ⟨_, rfl⟩
      refine kr_iinc (lv' := [(2, .int v43), (0, .ref (q 0)), (1, .int p1)]) (k := 0) h dX0_install_43 rfl (by rw [e43]; rfl) (by decide) rfl ?_
      refine kr_goto h 30 dX0_install_46 (by decide) ?_
      exact ih (k + 1) v43 _ (by rw [e43, hi]; exact nI_1 k) (by omega) (by omega) (xFill hi (by omega) h0 h1).1 (xFill hi (by omega) h0 h1).2
set_option maxHeartbeats 4000000 in
set_option maxRecDepth 100000 in
theorem c_install (l : Launch) (hst : l.stackTraces = false) (D : va_G) (cI cZ cJ : ClassId) (q : Nat → Nat) (x : xSt) (p : Int32) : kc_MX l yX0_install cX0_install 3 (some .int) 6 90 1 6 [.ref (q 0), .int p] D vwCl (tyL cI cZ cJ) (wX cI cZ q x) (xInsO x p) (wX cI cZ q (xInsX x p)) := by
  refine kc_startX RX0 (by decide +kernel) rfl (Nat.le_of_ble_eq_true rfl) ?_
  intro zp ze zs zm zb zt zc h hr hlk hnh hT
  refine kr_aload_n h dX0_install_0 rfl 0 rfl ?_
  refine kr_iload_n h dX0_install_1 rfl 1 rfl ?_
  refine kr_iA h (kc_rV h (c_isPolicy l D cI cZ cJ q x p) mlX0_105 yvX0_isPolicy dX0_install_2 rfl rfl ⟨Nat.le_of_ble_eq_true rfl, Nat.le_of_ble_eq_true rfl⟩ ⟨Nat.le_of_ble_eq_true rfl, Nat.le_of_ble_eq_true rfl⟩ (Nat.le_of_ble_eq_true rfl) [0, 1, 2, 3, 4, 5, 6, 7, 8, 9, 10, 11] rfl rfl 0 rfl rfl rfl) (fun v2 e2 => ?_)
  refine kr_if_ne h 18 dX0_install_5 (by decide) (fun c5 => ?_) (fun c5 => ?_)
  · refine kr_aload_n h dX0_install_18 rfl 0 rfl ?_
    refine kr_iload_n h dX0_install_19 rfl 1 rfl ?_
    refine kr_put (ws' := wX cI cZ q (xI x 5 p)) h FX0ok 0 16 dX0_install_20 flX0_44 rfl rfl (by decide) rfl rfl rfl rfl (Nat.le_of_ble_eq_true rfl) rfl ?_
    refine kr_aload_n h dX0_install_23 rfl 0 rfl ?_
    refine kr_iconst (v := 0) h dX0_install_24 (by decide) ?_
    refine kr_put (ws' := wX cI cZ q (xI (xI x 5 p) 6 0)) h FX0ok 0 17 dX0_install_25 flX0_110 rfl rfl (by decide) rfl rfl rfl rfl (Nat.le_of_ble_eq_true rfl) rfl ?_
    refine kr_iconst (v := 0) h dX0_install_28 (by decide) ?_
    refine kr_istore_n (lv' := [(2, .int 0), (0, .ref (q 0)), (1, .int p)]) h dX0_install_29 rfl (by decide) rfl ?_
    refine lp_install h (xIns x p) (fun i => ?_) 41 0 0 (x.1 6) rfl (by omega) (by omega) (fun j hj => absurd hj (by omega)) (fun j _ => rfl)
    refine kr_iconst (v := 0) h dX0_install_49 (by decide) ?_
    exact kr_iretX h hr hlk dX0_install_50 (if_pos (xb_t e2 c5)) (congrArg _ (if_pos (xb_t e2 c5)).symm) (Nat.zero_le _) (Nat.zero_le _)
  · exact kr_throw (tx := "no such policy") h hlk hnh hT hst tx_63 (by decide +kernel) dX0_install_8 dX0_install_11 dX0_install_12 dX0_install_14 dX0_install_17 (Nat.le_of_ble_eq_true rfl) (Nat.le_of_ble_eq_true rfl) (Nat.le_of_ble_eq_true rfl) (Nat.le_of_ble_eq_true rfl) (Nat.le_of_ble_eq_true rfl) (Nat.le_of_ble_eq_true rfl) (if_neg (xb_f e2 c5)) (congrArg _ (if_neg (xb_f e2 c5)).symm)
end
section
set_option maxHeartbeats 4000000 in
set_option maxRecDepth 100000 in
theorem c_act (l : Launch) (hst : l.stackTraces = false) (D : va_G) (cI cZ cJ : ClassId) (q : Nat → Nat) (x : xSt) (s v : Int32) (hi : xInst x) (hV : xV x) : kc_MX l yX0_act cX0_act 4 (some .int) 24 644 1 6 [.ref (q 0), .int s, .int v] D vwCl (tyL cI cZ cJ) (wX cI cZ q x) (xActO x s v) (wX cI cZ q (xActX x s v)) := by
  refine kc_startX RX0 (by decide +kernel) rfl (Nat.le_of_ble_eq_true rfl) ?_
  intro zp ze zs zm zb zt zc h hr hlk hnh hT
  refine kr_iload_n h dX0_act_0 rfl 1 rfl ?_
  refine kr_i0 h (kc_rS h (c_isSort l D cI cZ cJ s) mlX0_56 ysX0_isSort dX0_act_1 rfl rfl ⟨Nat.le_of_ble_eq_true rfl, Nat.le_of_ble_eq_true rfl⟩ ⟨Nat.le_of_ble_eq_true rfl, Nat.le_of_ble_eq_true rfl⟩ (Nat.le_of_ble_eq_true rfl) [] rfl rfl) (fun v1 e1 => ?_)
  refine kr_if_ne h 17 dX0_act_4 (by decide) (fun c4 => ?_) (fun c4 => ?_)
  · refine kr_aload_n h dX0_act_17 rfl 0 rfl ?_
    refine kr_get h FX0ok 0 17 dX0_act_18 flX0_110 rfl rfl (by decide) rfl rfl ?_
    refine kr_top h (fun v18 e18 => ?_)
    refine kr_if_eq h 28 dX0_act_21 (by decide) (fun c21 => ?_) (fun c21 => ?_)
    · refine kr_aload_n h dX0_act_28 rfl 0 rfl ?_
      refine kr_iload_n h dX0_act_29 rfl 1 rfl ?_
      refine kr_iload_n h dX0_act_30 rfl 2 rfl ?_
      refine kr_iconst (v := 1) h dX0_act_31 (by decide) ?_
      refine kr_iA h (kc_rV h (c_actAtDepth l D cI cZ cJ q 4 x s v 1 (by decide) rfl hi hV (xSo_of (xb_t e1 c4))) mlX0_116 yvX0_actAtDepth dX0_act_32 rfl rfl ⟨Nat.le_of_ble_eq_true rfl, Nat.le_of_ble_eq_true rfl⟩ ⟨Nat.le_of_ble_eq_true rfl, Nat.le_of_ble_eq_true rfl⟩ (Nat.le_of_ble_eq_true rfl) [0, 1, 2, 3, 4, 5, 6, 7, 8, 9, 10, 11] rfl rfl 0 rfl rfl rfl) (fun v32 e32 => ?_)
      refine kr_istore_n (lv' := [(3, .int v32), (0, .ref (q 0)), (1, .int s), (2, .int v)]) h dX0_act_35 rfl (by decide) rfl ?_
      refine kr_aload_n h dX0_act_36 rfl 1 rfl ?_
      refine kr_vA h (kc_rV h (c_forgetSpent l D cI cZ cJ q (xAct 4 x s v).2) mlX0_119 yvX0_forgetSpent dX0_act_37 rfl rfl ⟨Nat.le_of_ble_eq_true rfl, Nat.le_of_ble_eq_true rfl⟩ ⟨Nat.le_of_ble_eq_true rfl, Nat.le_of_ble_eq_true rfl⟩ (Nat.le_of_ble_eq_true rfl) [0, 1, 2, 3, 4, 5, 6, 7, 8, 9, 10, 11] rfl rfl 0 rfl rfl rfl) ?_
      refine kr_iload_n h dX0_act_40 rfl 0 rfl ?_
      refine kr_if_ne h 49 dX0_act_41 (by decide) (fun c41 => ?_) (fun c41 => ?_)
      · refine kr_aload_n h dX0_act_49 rfl 1 rfl ?_
        refine kr_dup h dX0_act_50 rfl ?_
        refine kr_get h FX0ok 0 15 dX0_act_51 flX0_125 rfl rfl (by decide) rfl rfl ?_
        refine kr_top h (fun v51 e51 => ?_)
        refine kr_iconst (v := 1) h dX0_act_54 (by decide) ?_
        refine kr_iadd h dX0_act_55 (fun v55 e55 => ?_)
        refine kr_put (ws' := wX cI cZ q (xI (xA (xAct 4 x s v).2 7 (xZ ((xAct 4 x s v).2.1 7))) 4 v55)) h FX0ok 0 15 dX0_act_56 flX0_125 rfl rfl (by decide) rfl rfl rfl rfl (Nat.le_of_ble_eq_true rfl) rfl ?_
        refine kr_iload_n h dX0_act_59 rfl 0 rfl ?_
        refine kr_iconst (v := 2) h dX0_act_60 (by decide) ?_
        refine kr_icmp_ne h 79 dX0_act_61 (by decide) (fun c61 => ?_) (fun c61 => ?_)
        · refine kr_iload_n h dX0_act_79 rfl 0 rfl ?_
          refine kr_iconst (v := 1) h dX0_act_80 (by decide) ?_
          refine kr_icmp_ne h 94 dX0_act_81 (by decide) (fun c81 => ?_) (fun c81 => ?_)
          · exact kr_throw (tx := "too deep") h hlk hnh hT hst tx_100 (by decide +kernel) dX0_act_94 dX0_act_97 dX0_act_98 dX0_act_100 dX0_act_103 (Nat.le_of_ble_eq_true rfl) (Nat.le_of_ble_eq_true rfl) (Nat.le_of_ble_eq_true rfl) (Nat.le_of_ble_eq_true rfl) (Nat.le_of_ble_eq_true rfl) (Nat.le_of_ble_eq_true rfl) ((xAct_c (xb_t e1 c4) (by first | (show xActR x s v = (2, x); exact if_neg (fun z => c21 (e18.trans z))) | (show xActR x s v = xAct 4 x s v; exact if_pos (e18.symm.trans c21))) (fun z => c41 (e32.trans z)) (fun z => c61 (e32.trans z))).1.trans (if_neg (fun z => c81 (e32.trans z)))) (congrArg _ (((xAct_c (xb_t e1 c4) (by first | (show xActR x s v = (2, x); exact if_neg (fun z => c21 (e18.trans z))) | (show xActR x s v = xAct 4 x s v; exact if_pos (e18.symm.trans c21))) (fun z => c41 (e32.trans z)) (fun z => c61 (e32.trans z))).2.trans (by rw [e55, e51]; rfl)).symm))
          · exact kr_throw (tx := "forbidden") h hlk hnh hT hst tx_84 (by decide +kernel) dX0_act_84 dX0_act_87 dX0_act_88 dX0_act_90 dX0_act_93 (Nat.le_of_ble_eq_true rfl) (Nat.le_of_ble_eq_true rfl) (Nat.le_of_ble_eq_true rfl) (Nat.le_of_ble_eq_true rfl) (Nat.le_of_ble_eq_true rfl) (Nat.le_of_ble_eq_true rfl) ((xAct_c (xb_t e1 c4) (by first | (show xActR x s v = (2, x); exact if_neg (fun z => c21 (e18.trans z))) | (show xActR x s v = xAct 4 x s v; exact if_pos (e18.symm.trans c21))) (fun z => c41 (e32.trans z)) (fun z => c61 (e32.trans z))).1.trans (if_pos (e32.symm.trans c81))) (congrArg _ (((xAct_c (xb_t e1 c4) (by first | (show xActR x s v = (2, x); exact if_neg (fun z => c21 (e18.trans z))) | (show xActR x s v = xAct 4 x s v; exact if_pos (e18.symm.trans c21))) (fun z => c41 (e32.trans z)) (fun z => c61 (e32.trans z))).2.trans (by rw [e55, e51]; rfl)).symm))
        · refine kr_aload_n h dX0_act_64 rfl 1 rfl ?_
          refine kr_iconst (v := 1) h dX0_act_65 (by decide) ?_
          refine kr_put (ws' := wX cI cZ q (xI (xI (xA (xAct 4 x s v).2 7 (xZ ((xAct 4 x s v).2.1 7))) 4 v55) 6 1)) h FX0ok 0 17 dX0_act_66 flX0_110 rfl rfl (by decide) rfl rfl rfl rfl (Nat.le_of_ble_eq_true rfl) rfl ?_
          exact kr_throw (tx := "stopped") h hlk hnh hT hst tx_92 (by decide +kernel) dX0_act_69 dX0_act_72 dX0_act_73 dX0_act_75 dX0_act_78 (Nat.le_of_ble_eq_true rfl) (Nat.le_of_ble_eq_true rfl) (Nat.le_of_ble_eq_true rfl) (Nat.le_of_ble_eq_true rfl) (Nat.le_of_ble_eq_true rfl) (Nat.le_of_ble_eq_true rfl) ((xAct_b (xb_t e1 c4) (by first | (show xActR x s v = (2, x); exact if_neg (fun z => c21 (e18.trans z))) | (show xActR x s v = xAct 4 x s v; exact if_pos (e18.symm.trans c21))) (by first | rfl | exact e32.symm.trans c61)).1) (congrArg _ (((xAct_b (xb_t e1 c4) (by first | (show xActR x s v = (2, x); exact if_neg (fun z => c21 (e18.trans z))) | (show xActR x s v = xAct 4 x s v; exact if_pos (e18.symm.trans c21))) (by first | rfl | exact e32.symm.trans c61)).2.trans (by rw [e55, e51]; rfl)).symm))
      · refine kr_aload_n h dX0_act_44 rfl 1 rfl ?_
        refine kr_get h FX0ok 0 18 dX0_act_45 flX0_122 rfl rfl (by decide) rfl rfl ?_
        refine kr_top h (fun v45 e45 => ?_)
        exact kr_iretX h hr hlk dX0_act_48 ((xAct_a (xb_t e1 c4) (by first | (show xActR x s v = (2, x); exact if_neg (fun z => c21 (e18.trans z))) | (show xActR x s v = xAct 4 x s v; exact if_pos (e18.symm.trans c21))) (e32.symm.trans c41)).1.trans (congrArg _ e45.symm)) (congrArg _ (xAct_a (xb_t e1 c4) (by first | (show xActR x s v = (2, x); exact if_neg (fun z => c21 (e18.trans z))) | (show xActR x s v = xAct 4 x s v; exact if_pos (e18.symm.trans c21))) (e32.symm.trans c41)).2.symm) (Nat.zero_le _) (Nat.zero_le _)
    · refine kr_iconst (v := 2) h dX0_act_24 (by decide) ?_
      refine kr_goto h 35 dX0_act_25 (by decide) ?_
      refine kr_istore_n (lv' := [(3, .int 2), (0, .ref (q 0)), (1, .int s), (2, .int v)]) h dX0_act_35 rfl (by decide) rfl ?_
      refine kr_aload_n h dX0_act_36 rfl 1 rfl ?_
      refine kr_vA h (kc_rV h (c_forgetSpent l D cI cZ cJ q x) mlX0_119 yvX0_forgetSpent dX0_act_37 rfl rfl ⟨Nat.le_of_ble_eq_true rfl, Nat.le_of_ble_eq_true rfl⟩ ⟨Nat.le_of_ble_eq_true rfl, Nat.le_of_ble_eq_true rfl⟩ (Nat.le_of_ble_eq_true rfl) [0, 1, 2, 3, 4, 5, 6, 7, 8, 9, 10, 11] rfl rfl 0 rfl rfl rfl) ?_
      refine kr_iload_n h dX0_act_40 rfl 0 rfl ?_
      refine kr_if_ne h 49 dX0_act_41 (by decide) (fun c41 => ?_) (fun c41 => ?_)
      · refine kr_aload_n h dX0_act_49 rfl 1 rfl ?_
        refine kr_dup h dX0_act_50 rfl ?_
        refine kr_get h FX0ok 0 15 dX0_act_51 flX0_125 rfl rfl (by decide) rfl rfl ?_
        refine kr_top h (fun v51 e51 => ?_)
        refine kr_iconst (v := 1) h dX0_act_54 (by decide) ?_
        refine kr_iadd h dX0_act_55 (fun v55 e55 => ?_)
        refine kr_put (ws' := wX cI cZ q (xI (xA x 7 (xZ (x.1 7))) 4 v55)) h FX0ok 0 15 dX0_act_56 flX0_125 rfl rfl (by decide) rfl rfl rfl rfl (Nat.le_of_ble_eq_true rfl) rfl ?_
        refine kr_iload_n h dX0_act_59 rfl 0 rfl ?_
        refine kr_iconst (v := 2) h dX0_act_60 (by decide) ?_
        refine kr_icmp_ne h 79 dX0_act_61 (by decide) (fun c61 => ?_) (fun c61 => ?_)
        · exact absurd c61 (by decide)
        · refine kr_aload_n h dX0_act_64 rfl 1 rfl ?_
          refine kr_iconst (v := 1) h dX0_act_65 (by decide) ?_
          refine kr_put (ws' := wX cI cZ q (xI (xI (xA x 7 (xZ (x.1 7))) 4 v55) 6 1)) h FX0ok 0 17 dX0_act_66 flX0_110 rfl rfl (by decide) rfl rfl rfl rfl (Nat.le_of_ble_eq_true rfl) rfl ?_
          exact kr_throw (tx := "stopped") h hlk hnh hT hst tx_92 (by decide +kernel) dX0_act_69 dX0_act_72 dX0_act_73 dX0_act_75 dX0_act_78 (Nat.le_of_ble_eq_true rfl) (Nat.le_of_ble_eq_true rfl) (Nat.le_of_ble_eq_true rfl) (Nat.le_of_ble_eq_true rfl) (Nat.le_of_ble_eq_true rfl) (Nat.le_of_ble_eq_true rfl) ((xAct_b (xb_t e1 c4) (by first | (show xActR x s v = (2, x); exact if_neg (fun z => c21 (e18.trans z))) | (show xActR x s v = xAct 4 x s v; exact if_pos (e18.symm.trans c21))) (by first | rfl | exact e32.symm.trans c61)).1) (congrArg _ (((xAct_b (xb_t e1 c4) (by first | (show xActR x s v = (2, x); exact if_neg (fun z => c21 (e18.trans z))) | (show xActR x s v = xAct 4 x s v; exact if_pos (e18.symm.trans c21))) (by first | rfl | exact e32.symm.trans c61)).2.trans (by rw [e55, e51]; rfl)).symm))
      · exact absurd c41 (by decide)
  · exact kr_throw (tx := "no such sort") h hlk hnh hT hst tx_63 (by decide +kernel) dX0_act_7 dX0_act_10 dX0_act_11 dX0_act_13 dX0_act_16 (Nat.le_of_ble_eq_true rfl) (Nat.le_of_ble_eq_true rfl) (Nat.le_of_ble_eq_true rfl) (Nat.le_of_ble_eq_true rfl) (Nat.le_of_ble_eq_true rfl) (Nat.le_of_ble_eq_true rfl) (if_neg (xb_f e1 c4)) (congrArg _ (if_neg (xb_f e1 c4)).symm)
end
section
/-! the reference's state: rows 0 kind, 1 opA, 2 opB, 3 opC, 4 level, 5 state, 6 used, 7 spent, 8 table, 9 total, 10 note, 11 is, 12 sort, 13 value, 14 from, 15 under, 16 phase, 17 actSort, 18 actArgument; ints 0 made, 1 installed, 2 notes, 3 done, 4 replaced, 5 threw, 6 code, 7 result, 8 stopped -/
def wY (cI cZ : ClassId) (q : Nat → Nat) (y : xSt) : va_W := [(q 0, .inr (1, [.int (y.2 0), .int (y.2 1), .int (y.2 2), .int (y.2 3), .int (y.2 4), .int (y.2 5), .int (y.2 6), .int (y.2 7), .int (y.2 8), .ref (q 1), .ref (q 2), .ref (q 3), .ref (q 4), .ref (q 5), .ref (q 6), .ref (q 7), .ref (q 8), .ref (q 9), .ref (q 10), .ref (q 11), .ref (q 12), .ref (q 13), .ref (q 14), .ref (q 15), .ref (q 16), .ref (q 17), .ref (q 18), .ref (q 19)])), (q 1, .inl (cI, 40, .inl (y.1 0))), (q 2, .inl (cI, 40, .inl (y.1 1))), (q 3, .inl (cI, 40, .inl (y.1 2))), (q 4, .inl (cI, 40, .inl (y.1 3))), (q 5, .inl (cI, 40, .inl (y.1 4))), (q 6, .inl (cI, 40, .inl (y.1 5))), (q 7, .inl (cZ, 40, .inl (y.1 6))), (q 8, .inl (cZ, 40, .inl (y.1 7))), (q 9, .inl (cI, 96, .inl (y.1 8))), (q 10, .inl (cI, 8, .inl (y.1 9))), (q 11, .inl (cI, 16, .inl (y.1 10))), (q 12, .inl (cI, 40, .inl (y.1 11))), (q 13, .inl (cI, 40, .inl (y.1 12))), (q 14, .inl (cI, 40, .inl (y.1 13))), (q 15, .inl (cI, 40, .inl (y.1 14))), (q 16, .inl (cI, 40, .inl (y.1 15))), (q 17, .inl (cI, 40, .inl (y.1 16))), (q 18, .inl (cI, 6, .inl (y.1 17))), (q 19, .inl (cI, 6, .inl (y.1 18)))]
theorem wY_r0 (cI cZ : ClassId) (q : Nat → Nat) (x : xSt) (f : Nat → Int32) : (wY cI cZ q x).set 1 (q 1, .inl (cI, 40, .inl f)) = wY cI cZ q (xA x 0 f) := rfl
theorem wY_r1 (cI cZ : ClassId) (q : Nat → Nat) (x : xSt) (f : Nat → Int32) : (wY cI cZ q x).set 2 (q 2, .inl (cI, 40, .inl f)) = wY cI cZ q (xA x 1 f) := rfl
theorem wY_r2 (cI cZ : ClassId) (q : Nat → Nat) (x : xSt) (f : Nat → Int32) : (wY cI cZ q x).set 3 (q 3, .inl (cI, 40, .inl f)) = wY cI cZ q (xA x 2 f) := rfl
theorem wY_r3 (cI cZ : ClassId) (q : Nat → Nat) (x : xSt) (f : Nat → Int32) : (wY cI cZ q x).set 4 (q 4, .inl (cI, 40, .inl f)) = wY cI cZ q (xA x 3 f) := rfl
theorem wY_r4 (cI cZ : ClassId) (q : Nat → Nat) (x : xSt) (f : Nat → Int32) : (wY cI cZ q x).set 5 (q 5, .inl (cI, 40, .inl f)) = wY cI cZ q (xA x 4 f) := rfl
theorem wY_r5 (cI cZ : ClassId) (q : Nat → Nat) (x : xSt) (f : Nat → Int32) : (wY cI cZ q x).set 6 (q 6, .inl (cI, 40, .inl f)) = wY cI cZ q (xA x 5 f) := rfl
theorem wY_r6 (cI cZ : ClassId) (q : Nat → Nat) (x : xSt) (f : Nat → Int32) : (wY cI cZ q x).set 7 (q 7, .inl (cZ, 40, .inl f)) = wY cI cZ q (xA x 6 f) := rfl
theorem wY_r7 (cI cZ : ClassId) (q : Nat → Nat) (x : xSt) (f : Nat → Int32) : (wY cI cZ q x).set 8 (q 8, .inl (cZ, 40, .inl f)) = wY cI cZ q (xA x 7 f) := rfl
theorem wY_r8 (cI cZ : ClassId) (q : Nat → Nat) (x : xSt) (f : Nat → Int32) : (wY cI cZ q x).set 9 (q 9, .inl (cI, 96, .inl f)) = wY cI cZ q (xA x 8 f) := rfl
theorem wY_r9 (cI cZ : ClassId) (q : Nat → Nat) (x : xSt) (f : Nat → Int32) : (wY cI cZ q x).set 10 (q 10, .inl (cI, 8, .inl f)) = wY cI cZ q (xA x 9 f) := rfl
theorem wY_r10 (cI cZ : ClassId) (q : Nat → Nat) (x : xSt) (f : Nat → Int32) : (wY cI cZ q x).set 11 (q 11, .inl (cI, 16, .inl f)) = wY cI cZ q (xA x 10 f) := rfl
theorem wY_r11 (cI cZ : ClassId) (q : Nat → Nat) (x : xSt) (f : Nat → Int32) : (wY cI cZ q x).set 12 (q 12, .inl (cI, 40, .inl f)) = wY cI cZ q (xA x 11 f) := rfl
theorem wY_r12 (cI cZ : ClassId) (q : Nat → Nat) (x : xSt) (f : Nat → Int32) : (wY cI cZ q x).set 13 (q 13, .inl (cI, 40, .inl f)) = wY cI cZ q (xA x 12 f) := rfl
theorem wY_r13 (cI cZ : ClassId) (q : Nat → Nat) (x : xSt) (f : Nat → Int32) : (wY cI cZ q x).set 14 (q 14, .inl (cI, 40, .inl f)) = wY cI cZ q (xA x 13 f) := rfl
theorem wY_r14 (cI cZ : ClassId) (q : Nat → Nat) (x : xSt) (f : Nat → Int32) : (wY cI cZ q x).set 15 (q 15, .inl (cI, 40, .inl f)) = wY cI cZ q (xA x 14 f) := rfl
theorem wY_r15 (cI cZ : ClassId) (q : Nat → Nat) (x : xSt) (f : Nat → Int32) : (wY cI cZ q x).set 16 (q 16, .inl (cI, 40, .inl f)) = wY cI cZ q (xA x 15 f) := rfl
theorem wY_r16 (cI cZ : ClassId) (q : Nat → Nat) (x : xSt) (f : Nat → Int32) : (wY cI cZ q x).set 17 (q 17, .inl (cI, 40, .inl f)) = wY cI cZ q (xA x 16 f) := rfl
theorem wY_r17 (cI cZ : ClassId) (q : Nat → Nat) (x : xSt) (f : Nat → Int32) : (wY cI cZ q x).set 18 (q 18, .inl (cI, 6, .inl f)) = wY cI cZ q (xA x 17 f) := rfl
theorem wY_r18 (cI cZ : ClassId) (q : Nat → Nat) (x : xSt) (f : Nat → Int32) : (wY cI cZ q x).set 19 (q 19, .inl (cI, 6, .inl f)) = wY cI cZ q (xA x 18 f) := rfl
end
section
/-! what the reference's small methods answer -/
abbrev pOut (v a b : Int32) : Prop := v < a ∨ ¬ v ≤ b
abbrev pNA (k : Int32) : Prop := (¬ k ≤ 7 ∧ k < 12) ∨ ¬ k ≤ 12
abbrev pNB (k : Int32) : Prop := ¬ k ≤ 7 ∧ ¬ 13 ≤ k
abbrev pNo (x : xSt) (p : Int32) : Prop := p < 0 ∨ ¬ p < x.2 0
def ySug (x : xSt) (p k : Int32) : xSt := xPut (xPut x 11 (tn p) k) 14 (tn p) (-1)
def ySame (x : xSt) (p r : Int32) : xSt := xPut (xPut (xPut (xPut x 11 (tn p) (x.1 11 (tn r))) 12 (tn p) (x.1 12 (tn r))) 13 (tn p) (x.1 13 (tn r))) 14 (tn p) (x.1 14 (tn r))
abbrev pTA (x : xSt) (k a b : Int32) : Prop := (k = 10 ∧ ¬ x.1 11 (tn a) = 0) ∨ (¬ k = 10 ∧ k = 11 ∧ ¬ x.1 11 (tn a) ≤ 1) ∨ (¬ k = 10 ∧ ¬ k = 11 ∧ (x.1 11 (tn b) = 0 ∨ (¬ x.1 11 (tn a) = 0 ∧ ¬ x.1 11 (tn b) < x.1 11 (tn a))))
def yNext (x : xSt) (p t s : Int32) : Int32 :=
  if 8 ≤ x.1 0 (tn p) then
    (if x.1 0 (tn p) = 12 then (if t = 0 ∧ pIn (x.1 1 (tn p)) s then x.1 2 (tn p) else -1)
     else if t = 0 then x.1 1 (tn p) else if 1 < t ∨ ¬ x.1 0 (tn p) ≤ 12 then -1
     else if ¬ x.1 0 (tn p) ≤ 9 ∧ pTA x (x.1 0 (tn p)) (x.1 1 (tn p)) 0 then -1 else x.1 2 (tn p))
  else -1
end
section
set_option maxHeartbeats 4000000 in
set_option maxRecDepth 100000 in
theorem m_thrown (l : Launch) (D : va_G) (cI cZ cJ : ClassId) (q : Nat → Nat) (x : xSt) : kc_M l yX1_thrown cX1_thrown 1 (some .int) 0 0 0 0 [.ref (q 0)] D vwCl (tyL cI cZ cJ) (wY cI cZ q x) (some (.int (x.2 6))) (wY cI cZ q (x)) := by
  refine kc_start RX1 (by decide +kernel) rfl (Nat.le_of_ble_eq_true rfl) ?_
  intro zp ze zs zm zb zt zc h hr hlk hnm
  refine kr_aload_n h dX1_thrown_0 rfl 0 rfl ?_
  refine kr_get h FX1ok 0 6 dX1_thrown_1 flX1_28 rfl rfl (by decide) rfl rfl ?_
  refine kr_top h (fun v1 e1 => ?_)
  exact kr_iret h hr hlk dX1_thrown_4 (e1) (rfl)
set_option maxHeartbeats 4000000 in
set_option maxRecDepth 100000 in
theorem m_fail (l : Launch) (D : va_G) (cI cZ cJ : ClassId) (q : Nat → Nat) (x : xSt) (c : Int32) : kc_M l yX1_fail cX1_fail 2 (some .int) 0 0 0 0 [.ref (q 0), .int c] D vwCl (tyL cI cZ cJ) (wY cI cZ q x) (some (.int (0))) (wY cI cZ q (xI x 6 c)) := by
  refine kc_start RX1 (by decide +kernel) rfl (Nat.le_of_ble_eq_true rfl) ?_
  intro zp ze zs zm zb zt zc h hr hlk hnm
  refine kr_aload_n h dX1_fail_0 rfl 0 rfl ?_
  refine kr_iload_n h dX1_fail_1 rfl 1 rfl ?_
  refine kr_put (ws' := wY cI cZ q (xI x 6 c)) h FX1ok 0 6 dX1_fail_2 flX1_28 rfl rfl (by decide) rfl rfl rfl rfl (Nat.le_of_ble_eq_true rfl) rfl ?_
  refine kr_iconst (v := 0) h dX1_fail_5 (by decide) ?_
  exact kr_iret h hr hlk dX1_fail_6 (rfl) (rfl)
set_option maxHeartbeats 4000000 in
set_option maxRecDepth 100000 in
theorem m_fine (l : Launch) (D : va_G) (cI cZ cJ : ClassId) (q : Nat → Nat) (x : xSt) (a : Int32) : kc_M l yX1_fine cX1_fine 2 (some .int) 0 0 0 0 [.ref (q 0), .int a] D vwCl (tyL cI cZ cJ) (wY cI cZ q x) (some (.int (a))) (wY cI cZ q (xI x 6 0)) := by
  refine kc_start RX1 (by decide +kernel) rfl (Nat.le_of_ble_eq_true rfl) ?_
  intro zp ze zs zm zb zt zc h hr hlk hnm
  refine kr_aload_n h dX1_fine_0 rfl 0 rfl ?_
  refine kr_iconst (v := 0) h dX1_fine_1 (by decide) ?_
  refine kr_put (ws' := wY cI cZ q (xI x 6 0)) h FX1ok 0 6 dX1_fine_2 flX1_28 rfl rfl (by decide) rfl rfl rfl rfl (Nat.le_of_ble_eq_true rfl) rfl ?_
  refine kr_iload_n h dX1_fine_5 rfl 1 rfl ?_
  exact kr_iret h hr hlk dX1_fine_6 (rfl) (rfl)
set_option maxHeartbeats 4000000 in
set_option maxRecDepth 100000 in
theorem m_out (l : Launch) (D : va_G) (cI cZ cJ : ClassId) (q : Nat → Nat) (x : xSt) (v a b : Int32) : kc_M l yX1_out cX1_out 4 (some .boolean) 0 0 0 0 [.ref (q 0), .int v, .int a, .int b] D vwCl (tyL cI cZ cJ) (wY cI cZ q x) (some (.int (xb (pOut v a b)))) (wY cI cZ q (x)) := by
  refine kc_start RX1 (by decide +kernel) rfl (Nat.le_of_ble_eq_true rfl) ?_
  intro zp ze zs zm zb zt zc h hr hlk hnm
  refine kr_iload_n h dX1_out_0 rfl 1 rfl ?_
  refine kr_iload_n h dX1_out_1 rfl 2 rfl ?_
  refine kr_icmp_lt h 10 dX1_out_2 (by decide) (fun c2 => ?_) (fun c2 => ?_)
  · refine kr_iconst (v := 1) h dX1_out_10 (by decide) ?_
    refine kr_goto h 15 dX1_out_11 (by decide) ?_
    exact kr_zret h hr hlk dX1_out_15 (rfl) (by clear h hr hlk hnm; subst_vars; simp_all) (rfl)
  · refine kr_iload_n h dX1_out_5 rfl 1 rfl ?_
    refine kr_iload_n h dX1_out_6 rfl 3 rfl ?_
    refine kr_icmp_le h 14 dX1_out_7 (by decide) (fun c7 => ?_) (fun c7 => ?_)
    · refine kr_iconst (v := 0) h dX1_out_14 (by decide) ?_
      exact kr_zret h hr hlk dX1_out_15 (rfl) (by clear h hr hlk hnm; subst_vars; simp_all) (rfl)
    · refine kr_iconst (v := 1) h dX1_out_10 (by decide) ?_
      refine kr_goto h 15 dX1_out_11 (by decide) ?_
      exact kr_zret h hr hlk dX1_out_15 (rfl) (by clear h hr hlk hnm; subst_vars; simp_all) (rfl)
set_option maxHeartbeats 4000000 in
set_option maxRecDepth 100000 in
theorem m_namesA (l : Launch) (D : va_G) (cI cZ cJ : ClassId) (q : Nat → Nat) (x : xSt) (k : Int32) : kc_M l yX1_namesA cX1_namesA 2 (some .boolean) 0 0 0 0 [.ref (q 0), .int k] D vwCl (tyL cI cZ cJ) (wY cI cZ q x) (some (.int (xb (pNA k)))) (wY cI cZ q (x)) := by
  refine kc_start RX1 (by decide +kernel) rfl (Nat.le_of_ble_eq_true rfl) ?_
  intro zp ze zs zm zb zt zc h hr hlk hnm
  refine kr_iload_n h dX1_namesA_0 rfl 1 rfl ?_
  refine kr_bipush (v := 7) h dX1_namesA_1 (by decide) ?_
  refine kr_icmp_le h 12 dX1_namesA_3 (by decide) (fun c3 => ?_) (fun c3 => ?_)
  · refine kr_iload_n h dX1_namesA_12 rfl 1 rfl ?_
    refine kr_bipush (v := 12) h dX1_namesA_13 (by decide) ?_
    refine kr_icmp_le h 22 dX1_namesA_15 (by decide) (fun c15 => ?_) (fun c15 => ?_)
    · refine kr_iconst (v := 0) h dX1_namesA_22 (by decide) ?_
      exact kr_zret h hr hlk dX1_namesA_23 (rfl) (by clear h hr hlk hnm; subst_vars; simp_all) (rfl)
    · refine kr_iconst (v := 1) h dX1_namesA_18 (by decide) ?_
      refine kr_goto h 23 dX1_namesA_19 (by decide) ?_
      exact kr_zret h hr hlk dX1_namesA_23 (rfl) (by clear h hr hlk hnm; subst_vars; simp_all) (rfl)
  · refine kr_iload_n h dX1_namesA_6 rfl 1 rfl ?_
    refine kr_bipush (v := 12) h dX1_namesA_7 (by decide) ?_
    refine kr_icmp_lt h 18 dX1_namesA_9 (by decide) (fun c9 => ?_) (fun c9 => ?_)
    · refine kr_iconst (v := 1) h dX1_namesA_18 (by decide) ?_
      refine kr_goto h 23 dX1_namesA_19 (by decide) ?_
      exact kr_zret h hr hlk dX1_namesA_23 (rfl) (by clear h hr hlk hnm; subst_vars; simp_all) (rfl)
    · refine kr_iload_n h dX1_namesA_12 rfl 1 rfl ?_
      refine kr_bipush (v := 12) h dX1_namesA_13 (by decide) ?_
      refine kr_icmp_le h 22 dX1_namesA_15 (by decide) (fun c15 => ?_) (fun c15 => ?_)
      · refine kr_iconst (v := 0) h dX1_namesA_22 (by decide) ?_
        exact kr_zret h hr hlk dX1_namesA_23 (rfl) (by clear h hr hlk hnm; subst_vars; simp_all) (rfl)
      · refine kr_iconst (v := 1) h dX1_namesA_18 (by decide) ?_
        refine kr_goto h 23 dX1_namesA_19 (by decide) ?_
        exact kr_zret h hr hlk dX1_namesA_23 (rfl) (by clear h hr hlk hnm; subst_vars; simp_all) (rfl)
set_option maxHeartbeats 4000000 in
set_option maxRecDepth 100000 in
theorem m_namesB (l : Launch) (D : va_G) (cI cZ cJ : ClassId) (q : Nat → Nat) (x : xSt) (k : Int32) : kc_M l yX1_namesB cX1_namesB 2 (some .boolean) 0 0 0 0 [.ref (q 0), .int k] D vwCl (tyL cI cZ cJ) (wY cI cZ q x) (some (.int (xb (pNB k)))) (wY cI cZ q (x)) := by
  refine kc_start RX1 (by decide +kernel) rfl (Nat.le_of_ble_eq_true rfl) ?_
  intro zp ze zs zm zb zt zc h hr hlk hnm
  refine kr_iload_n h dX1_namesB_0 rfl 1 rfl ?_
  refine kr_bipush (v := 7) h dX1_namesB_1 (by decide) ?_
  refine kr_icmp_le h 16 dX1_namesB_3 (by decide) (fun c3 => ?_) (fun c3 => ?_)
  · refine kr_iconst (v := 0) h dX1_namesB_16 (by decide) ?_
    exact kr_zret h hr hlk dX1_namesB_17 (rfl) (by clear h hr hlk hnm; subst_vars; simp_all) (rfl)
  · refine kr_iload_n h dX1_namesB_6 rfl 1 rfl ?_
    refine kr_bipush (v := 13) h dX1_namesB_7 (by decide) ?_
    refine kr_icmp_ge h 16 dX1_namesB_9 (by decide) (fun c9 => ?_) (fun c9 => ?_)
    · refine kr_iconst (v := 0) h dX1_namesB_16 (by decide) ?_
      exact kr_zret h hr hlk dX1_namesB_17 (rfl) (by clear h hr hlk hnm; subst_vars; simp_all) (rfl)
    · refine kr_iconst (v := 1) h dX1_namesB_12 (by decide) ?_
      refine kr_goto h 17 dX1_namesB_13 (by decide) ?_
      exact kr_zret h hr hlk dX1_namesB_17 (rfl) (by clear h hr hlk hnm; subst_vars; simp_all) (rfl)
set_option maxHeartbeats 4000000 in
set_option maxRecDepth 100000 in
theorem m_no (l : Launch) (D : va_G) (cI cZ cJ : ClassId) (q : Nat → Nat) (x : xSt) (p : Int32) : kc_M l yX1_no cX1_no 2 (some .boolean) 0 0 0 0 [.ref (q 0), .int p] D vwCl (tyL cI cZ cJ) (wY cI cZ q x) (some (.int (xb (pNo x p)))) (wY cI cZ q (x)) := by
  refine kc_start RX1 (by decide +kernel) rfl (Nat.le_of_ble_eq_true rfl) ?_
  intro zp ze zs zm zb zt zc h hr hlk hnm
  refine kr_iload_n h dX1_no_0 rfl 1 rfl ?_
  refine kr_if_lt h 12 dX1_no_1 (by decide) (fun c1 => ?_) (fun c1 => ?_)
  · refine kr_iconst (v := 1) h dX1_no_12 (by decide) ?_
    refine kr_goto h 17 dX1_no_13 (by decide) ?_
    exact kr_zret h hr hlk dX1_no_17 (rfl) (by first | exact xb_1 (Or.inl c1) | exact xb_1 (Or.inr (by rw [← e6]; exact c9)) | exact xb_0 (fun z => z.elim c1 (fun z => z (by rw [← e6]; exact c9)))) (rfl)
  · refine kr_iload_n h dX1_no_4 rfl 1 rfl ?_
    refine kr_aload_n h dX1_no_5 rfl 0 rfl ?_
    refine kr_get h FX1ok 0 0 dX1_no_6 flX1_7 rfl rfl (by decide) rfl rfl ?_
    refine kr_top h (fun v6 e6 => ?_)
    refine kr_icmp_lt h 16 dX1_no_9 (by decide) (fun c9 => ?_) (fun c9 => ?_)
    · refine kr_iconst (v := 0) h dX1_no_16 (by decide) ?_
      exact kr_zret h hr hlk dX1_no_17 (rfl) (by first | exact xb_1 (Or.inl c1) | exact xb_1 (Or.inr (by rw [← e6]; exact c9)) | exact xb_0 (fun z => z.elim c1 (fun z => z (by rw [← e6]; exact c9)))) (rfl)
    · refine kr_iconst (v := 1) h dX1_no_12 (by decide) ?_
      refine kr_goto h 17 dX1_no_13 (by decide) ?_
      exact kr_zret h hr hlk dX1_no_17 (rfl) (by first | exact xb_1 (Or.inl c1) | exact xb_1 (Or.inr (by rw [← e6]; exact c9)) | exact xb_0 (fun z => z.elim c1 (fun z => z (by rw [← e6]; exact c9)))) (rfl)
set_option maxHeartbeats 4000000 in
set_option maxRecDepth 100000 in
theorem m_in (l : Launch) (D : va_G) (cI cZ cJ : ClassId) (q : Nat → Nat) (x : xSt) (a s : Int32) : kc_M l yX1_in cX1_in 3 (some .boolean) 0 0 0 0 [.ref (q 0), .int a, .int s] D vwCl (tyL cI cZ cJ) (wY cI cZ q x) (some (.int (xb (pIn a s)))) (wY cI cZ q (x)) := by
  refine kc_start RX1 (by decide +kernel) rfl (Nat.le_of_ble_eq_true rfl) ?_
  intro zp ze zs zm zb zt zc h hr hlk hnm
  refine kr_iload_n h dX1_in_0 rfl 1 rfl ?_
  refine kr_iload_n h dX1_in_1 rfl 2 rfl ?_
  refine kr_ishr h dX1_in_2 (fun v2 e2 => ?_)
  refine kr_iconst (v := 1) h dX1_in_3 (by decide) ?_
  refine kr_iand h dX1_in_4 (fun v4 e4 => ?_)
  refine kr_iconst (v := 1) h dX1_in_5 (by decide) ?_
  refine kr_icmp_ne h 13 dX1_in_6 (by decide) (fun c6 => ?_) (fun c6 => ?_)
  · refine kr_iconst (v := 0) h dX1_in_13 (by decide) ?_
    exact kr_zret h hr hlk dX1_in_14 (rfl) (by rw [e4, e2] at c6; first | exact (if_pos c6).symm | exact (if_neg c6).symm) (rfl)
  · refine kr_iconst (v := 1) h dX1_in_9 (by decide) ?_
    refine kr_goto h 14 dX1_in_10 (by decide) ?_
    exact kr_zret h hr hlk dX1_in_14 (rfl) (by rw [e4, e2] at c6; first | exact (if_pos c6).symm | exact (if_neg c6).symm) (rfl)
set_option maxHeartbeats 4000000 in
set_option maxRecDepth 100000 in
theorem m_suggest (l : Launch) (D : va_G) (cI cZ cJ : ClassId) (q : Nat → Nat) (x : xSt) (p k : Int32) (hp : vp_in p 40) : kc_M l yX1_suggest cX1_suggest 3 none 0 0 0 0 [.ref (q 0), .int p, .int k] D vwCl (tyL cI cZ cJ) (wY cI cZ q x) none (wY cI cZ q (ySug x p k)) := by
  refine kc_start RX1 (by decide +kernel) rfl (Nat.le_of_ble_eq_true rfl) ?_
  intro zp ze zs zm zb zt zc h hr hlk hnm
  refine kr_aload_n h dX1_suggest_0 rfl 0 rfl ?_
  refine kr_get h FX1ok 0 20 dX1_suggest_1 flX1_73 rfl rfl (by decide) rfl rfl ?_
  refine kr_iload_n h dX1_suggest_4 rfl 1 rfl ?_
  refine kr_iload_n h dX1_suggest_5 rfl 2 rfl ?_
  refine kr_iast (ws' := wY cI cZ q (xA x 11 (upd (x.1 11) (tn p) k))) h 12 0 dX1_suggest_6 rfl rfl (hp) (wY_r11 cI cZ q x _) ?_
  generalize ex6 : (xA x 11 (upd (x.1 11) (tn p) k)) = x6
  refine kr_aload_n h dX1_suggest_7 rfl 0 rfl ?_
  refine kr_get h FX1ok 0 23 dX1_suggest_8 flX1_82 rfl rfl (by decide) rfl rfl ?_
  refine kr_iload_n h dX1_suggest_11 rfl 1 rfl ?_
  refine kr_iconst (v := (-1)) h dX1_suggest_12 (by decide) ?_
  refine kr_iast (ws' := wY cI cZ q (xA x6 14 (upd (x6.1 14) (tn p) (-1)))) h 15 0 dX1_suggest_13 rfl rfl (hp) (wY_r14 cI cZ q x6 _) ?_
  generalize ex13 : (xA x6 14 (upd (x6.1 14) (tn p) (-1))) = x13
  exact kr_vret h hr hlk dX1_suggest_14 (by subst_vars; rfl)
set_option maxHeartbeats 4000000 in
set_option maxRecDepth 100000 in
theorem m_same (l : Launch) (D : va_G) (cI cZ cJ : ClassId) (q : Nat → Nat) (x : xSt) (p r : Int32) (hp : vp_in p 40) (hrr : vp_in r 40) : kc_M l yX1_same cX1_same 3 none 0 0 0 0 [.ref (q 0), .int p, .int r] D vwCl (tyL cI cZ cJ) (wY cI cZ q x) none (wY cI cZ q (ySame x p r)) := by
  refine kc_start RX1 (by decide +kernel) rfl (Nat.le_of_ble_eq_true rfl) ?_
  intro zp ze zs zm zb zt zc h hr hlk hnm
  refine kr_aload_n h dX1_same_0 rfl 0 rfl ?_
  refine kr_get h FX1ok 0 20 dX1_same_1 flX1_73 rfl rfl (by decide) rfl rfl ?_
  refine kr_iload_n h dX1_same_4 rfl 1 rfl ?_
  refine kr_aload_n h dX1_same_5 rfl 0 rfl ?_
  refine kr_get h FX1ok 0 20 dX1_same_6 flX1_73 rfl rfl (by decide) rfl rfl ?_
  refine kr_iload_n h dX1_same_9 rfl 2 rfl ?_
  refine kr_iald h 12 0 dX1_same_10 rfl rfl (hrr) (fun v10 e10 => ?_)
  refine kr_iast (ws' := wY cI cZ q (xA x 11 (upd (x.1 11) (tn p) v10))) h 12 0 dX1_same_11 rfl rfl (hp) (wY_r11 cI cZ q x _) ?_
  generalize ex11 : (xA x 11 (upd (x.1 11) (tn p) v10)) = x11
  refine kr_aload_n h dX1_same_12 rfl 0 rfl ?_
  refine kr_get h FX1ok 0 21 dX1_same_13 flX1_76 rfl rfl (by decide) rfl rfl ?_
  refine kr_iload_n h dX1_same_16 rfl 1 rfl ?_
  refine kr_aload_n h dX1_same_17 rfl 0 rfl ?_
  refine kr_get h FX1ok 0 21 dX1_same_18 flX1_76 rfl rfl (by decide) rfl rfl ?_
  refine kr_iload_n h dX1_same_21 rfl 2 rfl ?_
  refine kr_iald h 13 0 dX1_same_22 rfl rfl (hrr) (fun v22 e22 => ?_)
  refine kr_iast (ws' := wY cI cZ q (xA x11 12 (upd (x11.1 12) (tn p) v22))) h 13 0 dX1_same_23 rfl rfl (hp) (wY_r12 cI cZ q x11 _) ?_
  generalize ex23 : (xA x11 12 (upd (x11.1 12) (tn p) v22)) = x23
  refine kr_aload_n h dX1_same_24 rfl 0 rfl ?_
  refine kr_get h FX1ok 0 22 dX1_same_25 flX1_79 rfl rfl (by decide) rfl rfl ?_
  refine kr_iload_n h dX1_same_28 rfl 1 rfl ?_
  refine kr_aload_n h dX1_same_29 rfl 0 rfl ?_
  refine kr_get h FX1ok 0 22 dX1_same_30 flX1_79 rfl rfl (by decide) rfl rfl ?_
  refine kr_iload_n h dX1_same_33 rfl 2 rfl ?_
  refine kr_iald h 14 0 dX1_same_34 rfl rfl (hrr) (fun v34 e34 => ?_)
  refine kr_iast (ws' := wY cI cZ q (xA x23 13 (upd (x23.1 13) (tn p) v34))) h 14 0 dX1_same_35 rfl rfl (hp) (wY_r13 cI cZ q x23 _) ?_
  generalize ex35 : (xA x23 13 (upd (x23.1 13) (tn p) v34)) = x35
  refine kr_aload_n h dX1_same_36 rfl 0 rfl ?_
  refine kr_get h FX1ok 0 23 dX1_same_37 flX1_82 rfl rfl (by decide) rfl rfl ?_
  refine kr_iload_n h dX1_same_40 rfl 1 rfl ?_
  refine kr_aload_n h dX1_same_41 rfl 0 rfl ?_
  refine kr_get h FX1ok 0 23 dX1_same_42 flX1_82 rfl rfl (by decide) rfl rfl ?_
  refine kr_iload_n h dX1_same_45 rfl 2 rfl ?_
  refine kr_iald h 15 0 dX1_same_46 rfl rfl (hrr) (fun v46 e46 => ?_)
  refine kr_iast (ws' := wY cI cZ q (xA x35 14 (upd (x35.1 14) (tn p) v46))) h 15 0 dX1_same_47 rfl rfl (hp) (wY_r14 cI cZ q x35 _) ?_
  generalize ex47 : (xA x35 14 (upd (x35.1 14) (tn p) v46)) = x47
  exact kr_vret h hr hlk dX1_same_48 (by clear h hr hlk hnm; subst_vars; rfl)
set_option maxHeartbeats 4000000 in
set_option maxRecDepth 100000 in
theorem m_takesA (l : Launch) (D : va_G) (cI cZ cJ : ClassId) (q : Nat → Nat) (x : xSt) (k a b : Int32) (ha : vp_in a 40) (hb : vp_in b 40) : kc_M l yX1_takesA cX1_takesA 4 (some .boolean) 0 0 0 0 [.ref (q 0), .int k, .int a, .int b] D vwCl (tyL cI cZ cJ) (wY cI cZ q x) (some (.int (xb (pTA x k a b)))) (wY cI cZ q (x)) := by
  refine kc_start RX1 (by decide +kernel) rfl (Nat.le_of_ble_eq_true rfl) ?_
  intro zp ze zs zm zb zt zc h hr hlk hnm
  refine kr_iload_n h dX1_takesA_0 rfl 1 rfl ?_
  refine kr_bipush (v := 10) h dX1_takesA_1 (by decide) ?_
  refine kr_icmp_ne h 21 dX1_takesA_3 (by decide) (fun c3 => ?_) (fun c3 => ?_)
  · refine kr_iload_n h dX1_takesA_21 rfl 1 rfl ?_
    refine kr_bipush (v := 11) h dX1_takesA_22 (by decide) ?_
    refine kr_icmp_ne h 43 dX1_takesA_24 (by decide) (fun c24 => ?_) (fun c24 => ?_)
    · refine kr_aload_n h dX1_takesA_43 rfl 0 rfl ?_
      refine kr_get h FX1ok 0 20 dX1_takesA_44 flX1_73 rfl rfl (by decide) rfl rfl ?_
      refine kr_iload_n h dX1_takesA_47 rfl 3 rfl ?_
      refine kr_iald h 12 0 dX1_takesA_48 rfl rfl (hb) (fun v48 e48 => ?_)
      refine kr_if_eq h 76 dX1_takesA_49 (by decide) (fun c49 => ?_) (fun c49 => ?_)
      · refine kr_iconst (v := 1) h dX1_takesA_76 (by decide) ?_
        refine kr_goto h 81 dX1_takesA_77 (by decide) ?_
        exact kr_zret h hr hlk dX1_takesA_81 (rfl) (by clear h hr hlk hnm; subst_vars; simp_all [pTA]) (rfl)
      · refine kr_aload_n h dX1_takesA_52 rfl 0 rfl ?_
        refine kr_get h FX1ok 0 20 dX1_takesA_53 flX1_73 rfl rfl (by decide) rfl rfl ?_
        refine kr_iload_n h dX1_takesA_56 rfl 2 rfl ?_
        refine kr_iald h 12 0 dX1_takesA_57 rfl rfl (ha) (fun v57 e57 => ?_)
        refine kr_if_eq h 80 dX1_takesA_58 (by decide) (fun c58 => ?_) (fun c58 => ?_)
        · refine kr_iconst (v := 0) h dX1_takesA_80 (by decide) ?_
          exact kr_zret h hr hlk dX1_takesA_81 (rfl) (by clear h hr hlk hnm; subst_vars; simp_all [pTA]) (rfl)
        · refine kr_aload_n h dX1_takesA_61 rfl 0 rfl ?_
          refine kr_get h FX1ok 0 20 dX1_takesA_62 flX1_73 rfl rfl (by decide) rfl rfl ?_
          refine kr_iload_n h dX1_takesA_65 rfl 2 rfl ?_
          refine kr_iald h 12 0 dX1_takesA_66 rfl rfl (ha) (fun v66 e66 => ?_)
          refine kr_aload_n h dX1_takesA_67 rfl 0 rfl ?_
          refine kr_get h FX1ok 0 20 dX1_takesA_68 flX1_73 rfl rfl (by decide) rfl rfl ?_
          refine kr_iload_n h dX1_takesA_71 rfl 3 rfl ?_
          refine kr_iald h 12 0 dX1_takesA_72 rfl rfl (hb) (fun v72 e72 => ?_)
          refine kr_icmp_gt h 80 dX1_takesA_73 (by decide) (fun c73 => ?_) (fun c73 => ?_)
          · refine kr_iconst (v := 0) h dX1_takesA_80 (by decide) ?_
            exact kr_zret h hr hlk dX1_takesA_81 (rfl) (by clear h hr hlk hnm; subst_vars; simp_all [pTA]) (rfl)
          · refine kr_iconst (v := 1) h dX1_takesA_76 (by decide) ?_
            refine kr_goto h 81 dX1_takesA_77 (by decide) ?_
            exact kr_zret h hr hlk dX1_takesA_81 (rfl) (by clear h hr hlk hnm; subst_vars; simp_all [pTA]) (rfl)
    · refine kr_aload_n h dX1_takesA_27 rfl 0 rfl ?_
      refine kr_get h FX1ok 0 20 dX1_takesA_28 flX1_73 rfl rfl (by decide) rfl rfl ?_
      refine kr_iload_n h dX1_takesA_31 rfl 2 rfl ?_
      refine kr_iald h 12 0 dX1_takesA_32 rfl rfl (ha) (fun v32 e32 => ?_)
      refine kr_iconst (v := 1) h dX1_takesA_33 (by decide) ?_
      refine kr_icmp_le h 41 dX1_takesA_34 (by decide) (fun c34 => ?_) (fun c34 => ?_)
      · refine kr_iconst (v := 0) h dX1_takesA_41 (by decide) ?_
        exact kr_zret h hr hlk dX1_takesA_42 (rfl) (by clear h hr hlk hnm; subst_vars; simp_all [pTA]) (rfl)
      · refine kr_iconst (v := 1) h dX1_takesA_37 (by decide) ?_
        refine kr_goto h 42 dX1_takesA_38 (by decide) ?_
        exact kr_zret h hr hlk dX1_takesA_42 (rfl) (by clear h hr hlk hnm; subst_vars; simp_all [pTA]) (rfl)
  · refine kr_aload_n h dX1_takesA_6 rfl 0 rfl ?_
    refine kr_get h FX1ok 0 20 dX1_takesA_7 flX1_73 rfl rfl (by decide) rfl rfl ?_
    refine kr_iload_n h dX1_takesA_10 rfl 2 rfl ?_
    refine kr_iald h 12 0 dX1_takesA_11 rfl rfl (ha) (fun v11 e11 => ?_)
    refine kr_if_eq h 19 dX1_takesA_12 (by decide) (fun c12 => ?_) (fun c12 => ?_)
    · refine kr_iconst (v := 0) h dX1_takesA_19 (by decide) ?_
      exact kr_zret h hr hlk dX1_takesA_20 (rfl) (by clear h hr hlk hnm; subst_vars; simp_all [pTA]) (rfl)
    · refine kr_iconst (v := 1) h dX1_takesA_15 (by decide) ?_
      refine kr_goto h 20 dX1_takesA_16 (by decide) ?_
      exact kr_zret h hr hlk dX1_takesA_20 (rfl) (by clear h hr hlk hnm; subst_vars; simp_all [pTA]) (rfl)
set_option maxHeartbeats 4000000 in
set_option maxRecDepth 100000 in
theorem m_next (l : Launch) (D : va_G) (cI cZ cJ : ClassId) (q : Nat → Nat) (x : xSt) (p t s : Int32) (hp : vp_in p 40) (ha : ¬ x.1 0 (tn p) < 8 → ¬ x.1 0 (tn p) = 12 → x.1 0 (tn p) ≤ 12 → vp_in (x.1 1 (tn p)) 40) : kc_M l yX1_next cX1_next 5 (some .int) 1 23 0 0 [.ref (q 0), .int p, .int t, .int s] D vwCl (tyL cI cZ cJ) (wY cI cZ q x) (some (.int (yNext x p t s))) (wY cI cZ q (x)) := by
  refine kc_start RX1 (by decide +kernel) rfl (Nat.le_of_ble_eq_true rfl) ?_
  intro zp ze zs zm zb zt zc h hr hlk hnm
  refine kr_aload_n h dX1_next_0 rfl 0 rfl ?_
  refine kr_get h FX1ok 0 9 dX1_next_1 flX1_38 rfl rfl (by decide) rfl rfl ?_
  refine kr_iload_n h dX1_next_4 rfl 1 rfl ?_
  refine kr_iald h 1 0 dX1_next_5 rfl rfl (hp) (fun v5 e5 => ?_)
  refine kr_istore (lv' := [(4, .int v5), (0, .ref (q 0)), (1, .int p), (2, .int t), (3, .int s)]) h dX1_next_6 (by decide) rfl ?_
  refine kr_iload h dX1_next_8 0 rfl ?_
  refine kr_bipush (v := 8) h dX1_next_10 (by decide) ?_
  refine kr_icmp_ge h 17 dX1_next_12 (by decide) (fun c12 => ?_) (fun c12 => ?_)
  · refine kr_iload h dX1_next_17 0 rfl ?_
    refine kr_bipush (v := 12) h dX1_next_19 (by decide) ?_
    refine kr_icmp_ne h 53 dX1_next_21 (by decide) (fun c21 => ?_) (fun c21 => ?_)
    · refine kr_iload_n h dX1_next_53 rfl 3 rfl ?_
      refine kr_if_ne h 64 dX1_next_54 (by decide) (fun c54 => ?_) (fun c54 => ?_)
      · refine kr_iload_n h dX1_next_64 rfl 3 rfl ?_
        refine kr_iconst (v := 1) h dX1_next_65 (by decide) ?_
        refine kr_icmp_gt h 76 dX1_next_66 (by decide) (fun c66 => ?_) (fun c66 => ?_)
        · refine kr_iconst (v := (-1)) h dX1_next_76 (by decide) ?_
          exact kr_iret h hr hlk dX1_next_77 (by rw [yNext, if_pos (by rw [← e5]; exact c12), if_neg (fun z => c21 (e5.trans z)), if_neg c54]; exact (if_pos (by first | exact Or.inl c66 | exact Or.inr (by rw [← e5]; exact c73))).symm) (rfl)
        · refine kr_iload h dX1_next_69 0 rfl ?_
          refine kr_bipush (v := 12) h dX1_next_71 (by decide) ?_
          refine kr_icmp_le h 78 dX1_next_73 (by decide) (fun c73 => ?_) (fun c73 => ?_)
          · refine kr_iload h dX1_next_78 0 rfl ?_
            refine kr_bipush (v := 9) h dX1_next_80 (by decide) ?_
            refine kr_icmp_le h 105 dX1_next_82 (by decide) (fun c82 => ?_) (fun c82 => ?_)
            · refine kr_aload_n h dX1_next_105 rfl 1 rfl ?_
              refine kr_get h FX1ok 0 11 dX1_next_106 flX1_45 rfl rfl (by decide) rfl rfl ?_
              refine kr_iload_n h dX1_next_109 rfl 2 rfl ?_
              refine kr_iald h 3 0 dX1_next_110 rfl rfl (hp) (fun v110 e110 => ?_)
              exact kr_iret h hr hlk dX1_next_111 (by rw [yNext, if_pos (by rw [← e5]; exact c12), if_neg (fun z => c21 (e5.trans z)), if_neg c54, if_neg (fun z => z.elim c66 (fun z => z (by rw [← e5]; exact c73)))]; first | (rw [if_neg (fun z => z.1 (by rw [← e5]; exact c82))]; exact e110) | (rw [if_neg (fun z => xb_f e95 c98 (by rw [e5, e93]; exact z.2))]; exact e110) | exact (if_pos ⟨by rw [← e5]; exact c82, by have z := xb_t e95 c98; rw [e5, e93] at z; exact z⟩).symm) (rfl)
            · refine kr_aload_n h dX1_next_85 rfl 1 rfl ?_
              refine kr_iload h dX1_next_86 0 rfl ?_
              refine kr_aload_n h dX1_next_88 rfl 1 rfl ?_
              refine kr_get h FX1ok 0 10 dX1_next_89 flX1_42 rfl rfl (by decide) rfl rfl ?_
              refine kr_iload_n h dX1_next_92 rfl 2 rfl ?_
              refine kr_iald h 2 0 dX1_next_93 rfl rfl (hp) (fun v93 e93 => ?_)
              refine kr_iconst (v := 0) h dX1_next_94 (by decide) ?_
              refine kr_iA h (kc_rV h (m_takesA l D cI cZ cJ q x v5 v93 0 (by rw [e93]; exact ha (by rw [← e5]; intro z; exact absurd c12 (fun q => Int32.not_le.mpr z q)) (by rw [← e5]; exact c21) (by rw [← e5]; exact c73)) (show vp_in (nI 0) 40 from vp_in_nI (by decide) (by decide))) mlX1_130 yvX1_takesA dX1_next_95 rfl rfl ⟨Nat.le_of_ble_eq_true rfl, Nat.le_of_ble_eq_true rfl⟩ ⟨Nat.le_of_ble_eq_true rfl, Nat.le_of_ble_eq_true rfl⟩ (Nat.le_of_ble_eq_true rfl) [0, 1, 2, 3, 4, 5, 6, 7, 8, 9, 10, 11, 12, 13, 14, 15, 16, 17, 18, 19] rfl rfl 0 rfl rfl rfl) (fun v95 e95 => ?_)
              refine kr_if_eq h 105 dX1_next_98 (by decide) (fun c98 => ?_) (fun c98 => ?_)
              · refine kr_aload_n h dX1_next_105 rfl 1 rfl ?_
                refine kr_get h FX1ok 0 11 dX1_next_106 flX1_45 rfl rfl (by decide) rfl rfl ?_
                refine kr_iload_n h dX1_next_109 rfl 2 rfl ?_
                refine kr_iald h 3 0 dX1_next_110 rfl rfl (hp) (fun v110 e110 => ?_)
                exact kr_iret h hr hlk dX1_next_111 (by rw [yNext, if_pos (by rw [← e5]; exact c12), if_neg (fun z => c21 (e5.trans z)), if_neg c54, if_neg (fun z => z.elim c66 (fun z => z (by rw [← e5]; exact c73)))]; first | (rw [if_neg (fun z => z.1 (by rw [← e5]; exact c82))]; exact e110) | (rw [if_neg (fun z => xb_f e95 c98 (by rw [e5, e93]; exact z.2))]; exact e110) | exact (if_pos ⟨by rw [← e5]; exact c82, by have z := xb_t e95 c98; rw [e5, e93] at z; exact z⟩).symm) (rfl)
              · refine kr_iconst (v := (-1)) h dX1_next_101 (by decide) ?_
                refine kr_goto h 111 dX1_next_102 (by decide) ?_
                exact kr_iret h hr hlk dX1_next_111 (by rw [yNext, if_pos (by rw [← e5]; exact c12), if_neg (fun z => c21 (e5.trans z)), if_neg c54, if_neg (fun z => z.elim c66 (fun z => z (by rw [← e5]; exact c73)))]; first | (rw [if_neg (fun z => z.1 (by rw [← e5]; exact c82))]; exact e110) | (rw [if_neg (fun z => xb_f e95 c98 (by rw [e5, e93]; exact z.2))]; exact e110) | exact (if_pos ⟨by rw [← e5]; exact c82, by have z := xb_t e95 c98; rw [e5, e93] at z; exact z⟩).symm) (rfl)
          · refine kr_iconst (v := (-1)) h dX1_next_76 (by decide) ?_
            exact kr_iret h hr hlk dX1_next_77 (by rw [yNext, if_pos (by rw [← e5]; exact c12), if_neg (fun z => c21 (e5.trans z)), if_neg c54]; exact (if_pos (by first | exact Or.inl c66 | exact Or.inr (by rw [← e5]; exact c73))).symm) (rfl)
      · refine kr_aload_n h dX1_next_57 rfl 1 rfl ?_
        refine kr_get h FX1ok 0 10 dX1_next_58 flX1_42 rfl rfl (by decide) rfl rfl ?_
        refine kr_iload_n h dX1_next_61 rfl 2 rfl ?_
        refine kr_iald h 2 0 dX1_next_62 rfl rfl (hp) (fun v62 e62 => ?_)
        exact kr_iret h hr hlk dX1_next_63 (by rw [yNext, if_pos (by rw [← e5]; exact c12), if_neg (fun z => c21 (e5.trans z)), if_pos c54]; exact e62) (rfl)
    · refine kr_iload_n h dX1_next_24 rfl 3 rfl ?_
      refine kr_if_ne h 51 dX1_next_25 (by decide) (fun c25 => ?_) (fun c25 => ?_)
      · refine kr_iconst (v := (-1)) h dX1_next_51 (by decide) ?_
        exact kr_iret h hr hlk dX1_next_52 (by rw [yNext, if_pos (by rw [← e5]; exact c12), if_pos (e5.symm.trans c21)]; first | exact (if_neg (fun z => c25 z.1)).symm | exact (if_neg (fun z => xb_f e36 c39 (by rw [e34]; exact z.2))).symm | (rw [if_pos ⟨c25, by have z := xb_t e36 c39; rw [e34] at z; exact z⟩]; exact e47)) (rfl)
      · refine kr_aload_n h dX1_next_28 rfl 1 rfl ?_
        refine kr_aload_n h dX1_next_29 rfl 1 rfl ?_
        refine kr_get h FX1ok 0 10 dX1_next_30 flX1_42 rfl rfl (by decide) rfl rfl ?_
        refine kr_iload_n h dX1_next_33 rfl 2 rfl ?_
        refine kr_iald h 2 0 dX1_next_34 rfl rfl (hp) (fun v34 e34 => ?_)
        refine kr_iload_n h dX1_next_35 rfl 4 rfl ?_
        refine kr_iA h (kc_rV h (m_in l D cI cZ cJ q x v34 s) mlX1_126 yvX1_in dX1_next_36 rfl rfl ⟨Nat.le_of_ble_eq_true rfl, Nat.le_of_ble_eq_true rfl⟩ ⟨Nat.le_of_ble_eq_true rfl, Nat.le_of_ble_eq_true rfl⟩ (Nat.le_of_ble_eq_true rfl) [0, 1, 2, 3, 4, 5, 6, 7, 8, 9, 10, 11, 12, 13, 14, 15, 16, 17, 18, 19] rfl rfl 0 rfl rfl rfl) (fun v36 e36 => ?_)
        refine kr_if_eq h 51 dX1_next_39 (by decide) (fun c39 => ?_) (fun c39 => ?_)
        · refine kr_iconst (v := (-1)) h dX1_next_51 (by decide) ?_
          exact kr_iret h hr hlk dX1_next_52 (by rw [yNext, if_pos (by rw [← e5]; exact c12), if_pos (e5.symm.trans c21)]; first | exact (if_neg (fun z => c25 z.1)).symm | exact (if_neg (fun z => xb_f e36 c39 (by rw [e34]; exact z.2))).symm | (rw [if_pos ⟨c25, by have z := xb_t e36 c39; rw [e34] at z; exact z⟩]; exact e47)) (rfl)
        · refine kr_aload_n h dX1_next_42 rfl 1 rfl ?_
          refine kr_get h FX1ok 0 11 dX1_next_43 flX1_45 rfl rfl (by decide) rfl rfl ?_
          refine kr_iload_n h dX1_next_46 rfl 2 rfl ?_
          refine kr_iald h 3 0 dX1_next_47 rfl rfl (hp) (fun v47 e47 => ?_)
          refine kr_goto h 52 dX1_next_48 (by decide) ?_
          exact kr_iret h hr hlk dX1_next_52 (by rw [yNext, if_pos (by rw [← e5]; exact c12), if_pos (e5.symm.trans c21)]; first | exact (if_neg (fun z => c25 z.1)).symm | exact (if_neg (fun z => xb_f e36 c39 (by rw [e34]; exact z.2))).symm | (rw [if_pos ⟨c25, by have z := xb_t e36 c39; rw [e34] at z; exact z⟩]; exact e47)) (rfl)
  · refine kr_iconst (v := (-1)) h dX1_next_15 (by decide) ?_
    exact kr_iret h hr hlk dX1_next_16 (by rw [yNext, if_neg (by rw [← e5]; exact c12)]) (rfl)
end
