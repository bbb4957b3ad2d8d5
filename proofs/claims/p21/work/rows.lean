section
-- ===== PART A: goes FIRST, ahead of the names: the tables' words, and 'selects' of the private methods out of them =====
/-- a private method of a class that the tables say can be made, by its rows of tables_1 -/
def lw_okq (q : MethodName × Nat) : Prop := (q.1.cls ≠ "java/lang/invoke/MethodHandle" ∧ q.1.cls ≠ "java/lang/invoke/VarHandle") ∧ Cond.instantiable q.1.cls q.2 ∈ tables_1 ∧ Cond.privateMethod q.1 ∈ tables_1 ∧ Cond.instanceMethod q.1 ∈ tables_1
theorem lw_p0 : lw_okq (⟨"PastureBids", "settle", "(LPastureBids$Sale;I)V"⟩, 14) := ⟨⟨by decide +kernel, by decide +kernel⟩, List.mem_of_getElem? (i := 14) (by decide +kernel), List.mem_of_getElem? (i := 64) (by decide +kernel), List.mem_of_getElem? (i := 65) (by decide +kernel)⟩
theorem lw_p1 : lw_okq (⟨"PastureBids$Sale", "clear", "()V"⟩, 4) := ⟨⟨by decide +kernel, by decide +kernel⟩, List.mem_of_getElem? (i := 22) (by decide +kernel), List.mem_of_getElem? (i := 68) (by decide +kernel), List.mem_of_getElem? (i := 69) (by decide +kernel)⟩
theorem lw_p2 : lw_okq (⟨"PastureBids$BestSet", "clear", "()V"⟩, 2) := ⟨⟨by decide +kernel, by decide +kernel⟩, List.mem_of_getElem? (i := 28) (by decide +kernel), List.mem_of_getElem? (i := 72) (by decide +kernel), List.mem_of_getElem? (i := 73) (by decide +kernel)⟩
theorem lw_p3 : lw_okq (⟨"PastureBids", "findWinners", "(LPastureBids$BestSet;I)V"⟩, 14) := ⟨⟨by decide +kernel, by decide +kernel⟩, List.mem_of_getElem? (i := 14) (by decide +kernel), List.mem_of_getElem? (i := 79) (by decide +kernel), List.mem_of_getElem? (i := 80) (by decide +kernel)⟩
theorem lw_p4 : lw_okq (⟨"PastureBids", "seek", "(LPastureBids$BestSet;IIIII)V"⟩, 14) := ⟨⟨by decide +kernel, by decide +kernel⟩, List.mem_of_getElem? (i := 14) (by decide +kernel), List.mem_of_getElem? (i := 84) (by decide +kernel), List.mem_of_getElem? (i := 85) (by decide +kernel)⟩
theorem lw_p5 : lw_okq (⟨"PastureBids$BestSet", "consider", "(II)V"⟩, 2) := ⟨⟨by decide +kernel, by decide +kernel⟩, List.mem_of_getElem? (i := 28) (by decide +kernel), List.mem_of_getElem? (i := 88) (by decide +kernel), List.mem_of_getElem? (i := 89) (by decide +kernel)⟩
theorem lw_p6 : lw_okq (⟨"PastureBids$BestSet", "isBeatenBy", "(II)Z"⟩, 2) := ⟨⟨by decide +kernel, by decide +kernel⟩, List.mem_of_getElem? (i := 28) (by decide +kernel), List.mem_of_getElem? (i := 92) (by decide +kernel), List.mem_of_getElem? (i := 93) (by decide +kernel)⟩
theorem lw_p7 : lw_okq (⟨"PastureBids", "seekWith", "(LPastureBids$BestSet;IIIII)V"⟩, 14) := ⟨⟨by decide +kernel, by decide +kernel⟩, List.mem_of_getElem? (i := 14) (by decide +kernel), List.mem_of_getElem? (i := 102) (by decide +kernel), List.mem_of_getElem? (i := 103) (by decide +kernel)⟩
theorem lw_p8 : lw_okq (⟨"PastureBids", "counts", "(I)Z"⟩, 14) := ⟨⟨by decide +kernel, by decide +kernel⟩, List.mem_of_getElem? (i := 14) (by decide +kernel), List.mem_of_getElem? (i := 106) (by decide +kernel), List.mem_of_getElem? (i := 107) (by decide +kernel)⟩
theorem lw_p9 : lw_okq (⟨"PastureBids$BestSet", "has", "(I)Z"⟩, 2) := ⟨⟨by decide +kernel, by decide +kernel⟩, List.mem_of_getElem? (i := 28) (by decide +kernel), List.mem_of_getElem? (i := 110) (by decide +kernel), List.mem_of_getElem? (i := 111) (by decide +kernel)⟩
theorem lw_p10 : lw_okq (⟨"PastureBids", "award", "(LPastureBids$Sale;I)V"⟩, 14) := ⟨⟨by decide +kernel, by decide +kernel⟩, List.mem_of_getElem? (i := 14) (by decide +kernel), List.mem_of_getElem? (i := 114) (by decide +kernel), List.mem_of_getElem? (i := 115) (by decide +kernel)⟩
theorem lw_p11 : lw_okq (⟨"PastureBids", "reservesOf", "(I)I"⟩, 14) := ⟨⟨by decide +kernel, by decide +kernel⟩, List.mem_of_getElem? (i := 14) (by decide +kernel), List.mem_of_getElem? (i := 118) (by decide +kernel), List.mem_of_getElem? (i := 119) (by decide +kernel)⟩
theorem lw_p12 : lw_okq (⟨"PastureBids", "requireBid", "(I)V"⟩, 14) := ⟨⟨by decide +kernel, by decide +kernel⟩, List.mem_of_getElem? (i := 14) (by decide +kernel), List.mem_of_getElem? (i := 172) (by decide +kernel), List.mem_of_getElem? (i := 173) (by decide +kernel)⟩
theorem lw_p13 : lw_okq (⟨"java/lang/Throwable", "fillInStackTrace", "(I)Ljava/lang/Throwable;"⟩, 6) := ⟨⟨by decide +kernel, by decide +kernel⟩, List.mem_of_getElem? (i := 214) (by decide +kernel), List.mem_of_getElem? (i := 212) (by decide +kernel), List.mem_of_getElem? (i := 213) (by decide +kernel)⟩
theorem lw_p14 : lw_okq (⟨"PastureBids", "requireBidder", "(I)V"⟩, 14) := ⟨⟨by decide +kernel, by decide +kernel⟩, List.mem_of_getElem? (i := 14) (by decide +kernel), List.mem_of_getElem? (i := 255) (by decide +kernel), List.mem_of_getElem? (i := 256) (by decide +kernel)⟩
theorem lw_p15 : lw_okq (⟨"PastureBids", "bidsLeftOf", "(I)I"⟩, 14) := ⟨⟨by decide +kernel, by decide +kernel⟩, List.mem_of_getElem? (i := 14) (by decide +kernel), List.mem_of_getElem? (i := 260) (by decide +kernel), List.mem_of_getElem? (i := 261) (by decide +kernel)⟩
def lw_privs_1 : List (MethodName × Nat) := [(⟨"PastureBids", "settle", "(LPastureBids$Sale;I)V"⟩, 14), (⟨"PastureBids$Sale", "clear", "()V"⟩, 4), (⟨"PastureBids$BestSet", "clear", "()V"⟩, 2), (⟨"PastureBids", "findWinners", "(LPastureBids$BestSet;I)V"⟩, 14), (⟨"PastureBids", "seek", "(LPastureBids$BestSet;IIIII)V"⟩, 14), (⟨"PastureBids$BestSet", "consider", "(II)V"⟩, 2), (⟨"PastureBids$BestSet", "isBeatenBy", "(II)Z"⟩, 2), (⟨"PastureBids", "seekWith", "(LPastureBids$BestSet;IIIII)V"⟩, 14), (⟨"PastureBids", "counts", "(I)Z"⟩, 14), (⟨"PastureBids$BestSet", "has", "(I)Z"⟩, 2), (⟨"PastureBids", "award", "(LPastureBids$Sale;I)V"⟩, 14), (⟨"PastureBids", "reservesOf", "(I)I"⟩, 14), (⟨"PastureBids", "requireBid", "(I)V"⟩, 14), (⟨"java/lang/Throwable", "fillInStackTrace", "(I)Ljava/lang/Throwable;"⟩, 6), (⟨"PastureBids", "requireBidder", "(I)V"⟩, 14), (⟨"PastureBids", "bidsLeftOf", "(I)I"⟩, 14)]
theorem lw_r1 : ∀ q ∈ lw_privs_1, lw_okq q := List.forall_mem_cons.mpr ⟨lw_p0, List.forall_mem_cons.mpr ⟨lw_p1, List.forall_mem_cons.mpr ⟨lw_p2, List.forall_mem_cons.mpr ⟨lw_p3, List.forall_mem_cons.mpr ⟨lw_p4, List.forall_mem_cons.mpr ⟨lw_p5, List.forall_mem_cons.mpr ⟨lw_p6, List.forall_mem_cons.mpr ⟨lw_p7, List.forall_mem_cons.mpr ⟨lw_p8, List.forall_mem_cons.mpr ⟨lw_p9, List.forall_mem_cons.mpr ⟨lw_p10, List.forall_mem_cons.mpr ⟨lw_p11, List.forall_mem_cons.mpr ⟨lw_p12, List.forall_mem_cons.mpr ⟨lw_p13, List.forall_mem_cons.mpr ⟨lw_p14, List.forall_mem_cons.mpr ⟨lw_p15, fun _ h => absurd h List.not_mem_nil⟩⟩⟩⟩⟩⟩⟩⟩⟩⟩⟩⟩⟩⟩⟩⟩
theorem lw_p16 : lw_okq (⟨"PastureBids", "profit", "(LPastureBids$Sale;I)I"⟩, 14) := ⟨⟨by decide +kernel, by decide +kernel⟩, List.mem_of_getElem? (i := 14) (by decide +kernel), List.mem_of_getElem? (i := 264) (by decide +kernel), List.mem_of_getElem? (i := 265) (by decide +kernel)⟩
theorem lw_p17 : lw_okq (⟨"PastureBids", "requireField", "(I)V"⟩, 14) := ⟨⟨by decide +kernel, by decide +kernel⟩, List.mem_of_getElem? (i := 14) (by decide +kernel), List.mem_of_getElem? (i := 272) (by decide +kernel), List.mem_of_getElem? (i := 273) (by decide +kernel)⟩
theorem lw_p18 : lw_okq (⟨"PastureBids", "winnerOfField", "(I)I"⟩, 14) := ⟨⟨by decide +kernel, by decide +kernel⟩, List.mem_of_getElem? (i := 14) (by decide +kernel), List.mem_of_getElem? (i := 277) (by decide +kernel), List.mem_of_getElem? (i := 278) (by decide +kernel)⟩
theorem lw_p19 : lw_okq (⟨"PastureBids", "ownerOf", "(I)I"⟩, 14) := ⟨⟨by decide +kernel, by decide +kernel⟩, List.mem_of_getElem? (i := 14) (by decide +kernel), List.mem_of_getElem? (i := 281) (by decide +kernel), List.mem_of_getElem? (i := 282) (by decide +kernel)⟩
theorem lw_p20 : lw_okq (⟨"PastureBids", "countingBidsWith", "(I)I"⟩, 14) := ⟨⟨by decide +kernel, by decide +kernel⟩, List.mem_of_getElem? (i := 14) (by decide +kernel), List.mem_of_getElem? (i := 285) (by decide +kernel), List.mem_of_getElem? (i := 286) (by decide +kernel)⟩
theorem lw_p21 : lw_okq (⟨"PastureBids", "soldFields", "()I"⟩, 14) := ⟨⟨by decide +kernel, by decide +kernel⟩, List.mem_of_getElem? (i := 14) (by decide +kernel), List.mem_of_getElem? (i := 294) (by decide +kernel), List.mem_of_getElem? (i := 295) (by decide +kernel)⟩
theorem lw_p22 : lw_okq (⟨"PastureBids$Sale", "totalPaid", "()I"⟩, 4) := ⟨⟨by decide +kernel, by decide +kernel⟩, List.mem_of_getElem? (i := 22) (by decide +kernel), List.mem_of_getElem? (i := 298) (by decide +kernel), List.mem_of_getElem? (i := 299) (by decide +kernel)⟩
theorem lw_p23 : lw_okq (⟨"PastureBids", "totalProfit", "()I"⟩, 14) := ⟨⟨by decide +kernel, by decide +kernel⟩, List.mem_of_getElem? (i := 14) (by decide +kernel), List.mem_of_getElem? (i := 302) (by decide +kernel), List.mem_of_getElem? (i := 303) (by decide +kernel)⟩
theorem lw_p24 : lw_okq (⟨"PastureBids", "winningPrices", "()I"⟩, 14) := ⟨⟨by decide +kernel, by decide +kernel⟩, List.mem_of_getElem? (i := 14) (by decide +kernel), List.mem_of_getElem? (i := 306) (by decide +kernel), List.mem_of_getElem? (i := 307) (by decide +kernel)⟩
theorem lw_p25 : lw_okq (⟨"PastureBidsLaw$Sim", "choose", "(IIIIII)V"⟩, 6) := ⟨⟨by decide +kernel, by decide +kernel⟩, List.mem_of_getElem? (i := 324) (by decide +kernel), List.mem_of_getElem? (i := 322) (by decide +kernel), List.mem_of_getElem? (i := 323) (by decide +kernel)⟩
theorem lw_p26 : lw_okq (⟨"PastureBids", "highestAlone", "(II)I"⟩, 14) := ⟨⟨by decide +kernel, by decide +kernel⟩, List.mem_of_getElem? (i := 14) (by decide +kernel), List.mem_of_getElem? (i := 362) (by decide +kernel), List.mem_of_getElem? (i := 363) (by decide +kernel)⟩
theorem lw_p27 : lw_okq (⟨"PastureBids", "secondPrice", "(II)I"⟩, 14) := ⟨⟨by decide +kernel, by decide +kernel⟩, List.mem_of_getElem? (i := 14) (by decide +kernel), List.mem_of_getElem? (i := 366) (by decide +kernel), List.mem_of_getElem? (i := 367) (by decide +kernel)⟩
theorem lw_p28 : lw_okq (⟨"PastureBids", "putPrice", "(II)V"⟩, 14) := ⟨⟨by decide +kernel, by decide +kernel⟩, List.mem_of_getElem? (i := 14) (by decide +kernel), List.mem_of_getElem? (i := 429) (by decide +kernel), List.mem_of_getElem? (i := 430) (by decide +kernel)⟩
theorem lw_p29 : lw_okq (⟨"PastureBids", "bidsLeft", "()I"⟩, 14) := ⟨⟨by decide +kernel, by decide +kernel⟩, List.mem_of_getElem? (i := 14) (by decide +kernel), List.mem_of_getElem? (i := 459) (by decide +kernel), List.mem_of_getElem? (i := 460) (by decide +kernel)⟩
theorem lw_p30 : lw_okq (⟨"PastureBids", "requireBundle", "(I)V"⟩, 14) := ⟨⟨by decide +kernel, by decide +kernel⟩, List.mem_of_getElem? (i := 14) (by decide +kernel), List.mem_of_getElem? (i := 469) (by decide +kernel), List.mem_of_getElem? (i := 470) (by decide +kernel)⟩
def lw_privs_2 : List (MethodName × Nat) := [(⟨"PastureBids", "profit", "(LPastureBids$Sale;I)I"⟩, 14), (⟨"PastureBids", "requireField", "(I)V"⟩, 14), (⟨"PastureBids", "winnerOfField", "(I)I"⟩, 14), (⟨"PastureBids", "ownerOf", "(I)I"⟩, 14), (⟨"PastureBids", "countingBidsWith", "(I)I"⟩, 14), (⟨"PastureBids", "soldFields", "()I"⟩, 14), (⟨"PastureBids$Sale", "totalPaid", "()I"⟩, 4), (⟨"PastureBids", "totalProfit", "()I"⟩, 14), (⟨"PastureBids", "winningPrices", "()I"⟩, 14), (⟨"PastureBidsLaw$Sim", "choose", "(IIIIII)V"⟩, 6), (⟨"PastureBids", "highestAlone", "(II)I"⟩, 14), (⟨"PastureBids", "secondPrice", "(II)I"⟩, 14), (⟨"PastureBids", "putPrice", "(II)V"⟩, 14), (⟨"PastureBids", "bidsLeft", "()I"⟩, 14), (⟨"PastureBids", "requireBundle", "(I)V"⟩, 14)]
theorem lw_r2 : ∀ q ∈ lw_privs_2, lw_okq q := List.forall_mem_cons.mpr ⟨lw_p16, List.forall_mem_cons.mpr ⟨lw_p17, List.forall_mem_cons.mpr ⟨lw_p18, List.forall_mem_cons.mpr ⟨lw_p19, List.forall_mem_cons.mpr ⟨lw_p20, List.forall_mem_cons.mpr ⟨lw_p21, List.forall_mem_cons.mpr ⟨lw_p22, List.forall_mem_cons.mpr ⟨lw_p23, List.forall_mem_cons.mpr ⟨lw_p24, List.forall_mem_cons.mpr ⟨lw_p25, List.forall_mem_cons.mpr ⟨lw_p26, List.forall_mem_cons.mpr ⟨lw_p27, List.forall_mem_cons.mpr ⟨lw_p28, List.forall_mem_cons.mpr ⟨lw_p29, List.forall_mem_cons.mpr ⟨lw_p30, fun _ h => absurd h List.not_mem_nil⟩⟩⟩⟩⟩⟩⟩⟩⟩⟩⟩⟩⟩⟩⟩
def lw_privs : List (MethodName × Nat) := lw_privs_1 ++ (lw_privs_2)
def lw_tbl : List Cond := k2_sels lw_privs ++ tables_1
theorem lw_privs_ok : ∀ q ∈ lw_privs, lw_okq q := by
  show ∀ q ∈ lw_privs_1 ++ (lw_privs_2), lw_okq q
  exact List.forall_mem_append.mpr ⟨lw_r1, lw_r2⟩
/-- the streams that the claim lets the run draw from -/
abbrev lw_cs : List Choice := [Jvm.Choice.named "NaN.bits"]
theorem lw_bits : nanBits ∈ lw_cs := by first | decide | exact List.mem_cons_self | simp [lw_cs, nanBits]
-- ===== end of PART A; then your names; then what follows =====
/-! ===== BEGIN words of one list among another's, by their places ===== -/
theorem goodIn_r {big : List Cond} (ws : List Cond) (ps : List Nat) (hp : ws = ps.filterMap (fun i => big[i]?)) (h : ws.all goodWord = true) : GoodIn big ws := by
  intro w hw
  have h1 := List.all_eq_true.mp h w hw
  rw [hp] at hw
  obtain ⟨i, -, hi⟩ := List.mem_filterMap.mp hw
  have hm : w ∈ big := by first | exact List.mem_of_getElem? hi | exact List.getElem?_mem hi
  exact ⟨hm, good_of_word h1⟩
theorem goodIn_app {big a b : List Cond} (ha : GoodIn big a) (hb : GoodIn big b) : GoodIn big (a ++ b) := fun w h => (List.mem_append.mp h).elim (ha w) (hb w)
theorem goodIn_ca {big a b : List Cond} {c : Cond} (ha : GoodIn big (c :: a)) (hb : GoodIn big b) : GoodIn big (c :: (a ++ b)) := fun w h => (List.mem_cons.mp h).elim (fun e => ha w (List.mem_cons.mpr (Or.inl e))) (fun h => (List.mem_append.mp h).elim (fun h => ha w (List.mem_cons.mpr (Or.inr h))) (hb w))
theorem goodIn_sub {big ws : List Cond} (hm : ∀ w ∈ ws, w ∈ big) (h : ws.all goodWord = true) : GoodIn big ws := fun w hw => ⟨hm w hw, good_of_word (List.all_eq_true.mp h w hw)⟩
/-! ===== END ===== -/

/-! ===== BEGIN exceptions that leave a method, and their catching by the caller (launches without stack traces) ===== -/
section VXA
/-! The laws vx_back, vx_callV, vx_callS, vx_callSW, vx_throw0, vx_throwS follow proofs of the library, with one case more: JvmDerived/Free/Laws.lean (Back.of_free), Shelf42/LK1.lean (callV, callS), Shelf/KitTraced.lean (throwNew0V, throwNewS). -/
/-- where a method has thrown q: the class by its name, the cell, what was written, the world -/
def vx_T (XC : String → State → State → Prop) (st : State) (q : Addr) (t : State) (mc ms : Nat) (free : Addr → Prop) : Prop :=
  ∃ (E : String) (ce : Cell) (L : List Loc), XC E st t ∧ t.heap[q]? = some ce ∧ ce.vm = .none ∧ st.vm.findClass E = some ce.cls ∧ st.WarmedH t.vm ∧ st.sameButNew ({ t with vm := st.vm } : State) L mc ms ∧ ∀ z ∈ L, free z.base
def vx_Q (Qc : Array Value → State → Outcome → State → Prop) (XC : String → State → State → Prop) (mc ms : Nat) (free : Addr → Prop) : Array Value → State → Outcome → State → Prop := fun a st o t =>
  (Qc a st o t ∧ ∃ L, FrameEnd st o t L mc ms ∧ ∀ q ∈ L, free q.base) ∨ ∃ q, o = .threw q ∧ vx_T XC st q t mc ms free
/-- a callee that returns or throws -/
def vx_Met (l : Launch) (y : MethodName) (ws : List Cond) (rm : Room) (Pc : Array Value → State → Prop) (Qc : Array Value → State → Outcome → State → Prop) (XC : String → State → State → Prop) (mc ms : Nat) (free : Addr → Prop) : Prop :=
  MetFree l y (headSpec ws rm) Pc (fun _ _ _ _ _ => True) (vx_Q Qc XC mc ms free)
def vx_Post (XC : String → State → State → Prop) (mc ms : Nat) (free : Addr → Prop) : Pt → Array Value → Addr → Pt → Prop := fun A a q B =>
  ∃ (g : JFrame) (mk : MethodId) (t : State) (L : List Loc) (E : String) (ce : Cell), B.U.heap = t.heap ∧ B.U.vm = t.vm ∧ XC E (A.U.calling g mk a) t ∧ t.heap[q]? = some ce ∧ ce.vm = .none ∧ A.U.vm.findClass E = some ce.cls ∧ B.locs = A.locs ++ L ∧ (∀ z ∈ L, free z.base) ∧ B.cells = A.cells + mc ∧ B.slots = A.slots + ms
def vx_Back (l : Launch) (R : Room) (p : Program) (e : Env) (below : List Frame) (s : State) (sargs : Array Value) (y : MethodName) (len W9 : Nat)
    (Pre : Pt → Array Value → Prop) (Post : Pt → Array Value → Option Value → Pt → Prop) (PostX : Pt → Array Value → Addr → Pt → Prop) : Prop :=
  ∀ (m : MethodId) (meth : Method) (c : Code) (A : Pt) (g : JFrame) (ig : Instr) (mk : MethodId) (a : Array Value),
    Stand p l e R s m sargs below meth c A.U A.locs A.cells A.slots → g.method = m → g.locals.size = c.maxLocals → decode c.code g.pc = .ok (ig, len) →
    2 * g.monitorRoom + (g.stack.map fun v => v.category).sum ≤ W9 → A.U.methodNamed? y = some mk → Pre A a →
    (∃ (v : Option Value) (B : Pt), Stand p l e R s m sargs below meth c B.U B.locs B.cells B.slots ∧ Post A a v B ∧
      Steps p.tables e below (doInvoke e (A.U.setTop g) [] mk a).1 (B.U.setTop { g with pc := g.pc + len, stack := v.toList ++ g.stack })) ∨
    (∃ (q : Addr) (B : Pt), Stand p l e R s m sargs below meth c B.U B.locs B.cells B.slots ∧ PostX A a q B ∧
      Steps p.tables e below (doInvoke e (A.U.setTop g) [] mk a).1 ((B.U.setTop g).pushFrame (.throwing q)))
section Payer
variable {l : Launch} {R : Room} {p : Program} {e : Env} {below : List Frame} {s : State} {sargs : Array Value} {y : MethodName} {len W9 : Nat}
theorem vx_back {ws : List Cond} {rm : Room} {Pc : Array Value → State → Prop} {Qc : Array Value → State → Outcome → State → Prop} {XC : String → State → State → Prop} {mc ms : Nat} {free : Addr → Prop} {bytes : ByteArray} {maxL : Nat} {ret : Option FieldType}
    (hM : vx_Met l y ws rm Pc Qc XC mc ms free) (hblind : FrameBlind Pc) (hrc : rm.cells = mc) (hrs : rm.slots = ms)
    (hframes : rm.frames + 1 ≤ R.frames) (hlocals : W9 + (maxL + 11) + rm.locals ≤ R.locals)
    (hws : ∀ w ∈ ws, ∀ a' U, s.WarmedH U.vm → w.before a' U = true) (hcode : Cond.code y bytes maxL ret ∈ ws) (hinit : ∀ a' U, s.WarmedH U.vm → (Cond.initialized y.cls).before a' U = true) :
    vx_Back l R p e below s sargs y len W9 (PreOf R mc ms Pc) (PostOf Qc mc ms free) (vx_Post XC mc ms free) := by
  intro m meth c A g ig mk a X hg hsize hdg hW hn hp
  have h1 : (headSpec ws rm).pre.before a A.U = true := atoms_intro fun w hw => hws w hw _ _ X.warmed
  have h2 : (Cond.code y bytes maxL ret).before a A.U = true := hws _ hcode _ _ X.warmed
  have h3 : (Cond.initialized y.cls).before a A.U = true := hinit _ _ X.warmed
  have h4 : A.cells + (headSpec ws rm).room.cells ≤ R.cells := by rw [show (headSpec ws rm).room.cells = mc from hrc]; exact hp.1
  have h5 : A.slots + (headSpec ws rm).room.slots ≤ R.slots := by rw [show (headSpec ws rm).room.slots = ms from hrs]; exact hp.2.1
  have hPc : Pc a (A.U.calling g mk a) := hblind _ _ _ _ hp.2.2
  obtain ⟨U, Ls, c0, s0⟩ := A
  dsimp only [Pt.U, Pt.locs, Pt.cells, Pt.slots] at h1 h2 h3 h4 h5 X hn hPc ⊢
  obtain ⟨methY, cY, hmY, hcY, -, hlY, -, -, -, -⟩ := Cond.code_spec hn h2
  obtain ⟨kY, hkY, -⟩ := className_of_methodNamed hn
  have hinitY : kY.init = .initialized := Cond.initialized_spec (findClass_of_methodNamed hn) hkY h3
  have h : At U g.method c below := by rw [hg]; exact X.here
  have hlocals9 : W9 + (maxL + 11) + (headSpec ws rm).room.locals ≤ R.locals := hlocals
  have happ : (headSpec ws rm).appliesLoose y e.platform (U.calling g mk a) = true :=
    Spec.appliesLoose_calling (g := g) h hdg hn hkY hinitY
      (X.room_calling (g := g) (R' := (headSpec ws rm).room) hsize hmY hcY hframes (by rw [hlY]; omega) h4 h5) h1
  obtain ⟨mid, hmid⟩ := h.above
  have hfr : (U.setTop g).frames = (.java g :: mid) ++ below := by rw [State.frames_setTop' g h.top, hmid]; rfl
  obtain ⟨o, s₂, hsteps, -, hend, hq⟩ := Steps.callFree hM p X.admits X.cas X.clock (acts := []) hfr happ hPc trivial
  have hq' : vx_Q Qc XC mc ms free a (U.calling g mk a) o s₂ := hq
  rw [State.frames_setTop' g h.top] at hend
  obtain ⟨g₀, hg0⟩ := Option.isSome_iff_exists.mp h.top
  obtain ⟨r, hr⟩ := State.topJava?_eq_some.mp hg0
  have hr' : (({ U with heap := s₂.heap, slotsUsed := s₂.slotsUsed } : State).setVm s₂.vm).frames = .java g₀ :: r := hr
  rcases hq' with ⟨hqc, L, hfe, hL⟩ | ⟨q, rfl, E, ce, L, hx, hce, hcv, hcl, hW₂, hsm, hL⟩
  · obtain ⟨⟨v, rfl⟩, hW₂, e2, q2, q3, q4, q5, q6⟩ := id hfe
    have e3 : s₂ = ({ (U.calling g mk a).setFrames s₂.frames with heap := s₂.heap, slotsUsed := s₂.slotsUsed } : State).setVm s₂.vm := by
      have : s₂ = ({ s₂ with vm := (U.calling g mk a).vm } : State).setVm s₂.vm := rfl
      rw [e2] at this
      exact this
    obtain ⟨c₂, i₂, len₂, hc₂, hd₂, hf₂⟩ := hend
    have hW' : U.WarmedH s₂.vm := hW₂
    have hcc : c₂ = c := by
      have h1 : s₂.code? g.method = U.code? g.method := by
        rw [State.code?_eq, State.code?_eq, hW'.alike.method?]
      exact Option.some.inj (hc₂.symm.trans (h1.trans h.code))
    subst hcc
    have hlen : len₂ = len := by rw [hdg] at hd₂; cases hd₂; rfl
    subst hlen
    have hs₂ : s₂ = (({ U with heap := s₂.heap, slotsUsed := s₂.slotsUsed } : State).setVm s₂.vm).setTop { g with pc := g.pc + len₂, stack := v.toList ++ g.stack } := by
      refine e3.trans ?_
      rw [hf₂, State.calling_eq h.top, State.setFrames_setFrames, State.setTop_of_frames _ hr', hr]
      rfl
    have hsame : U.sameButNew ({ U with heap := s₂.heap, slotsUsed := s₂.slotsUsed } : State) L mc ms := by
      refine ⟨?_, q2, q3, q4, q5, q6⟩
      obtain ⟨t, ht, -⟩ := State.frames_cons hr
      show ({ U with heap := s₂.heap, slotsUsed := s₂.slotsUsed } : State) = { U.setFrames U.frames with heap := s₂.heap, slotsUsed := s₂.slotsUsed }
      rw [State.setFrames_self ht]
    subst hg
    refine Or.inl ⟨v, ⟨(({ U with heap := s₂.heap, slotsUsed := s₂.slotsUsed } : State).setVm s₂.vm), Ls ++ L, c0 + mc, s0 + ms⟩,
      ⟨X.admits, X.cas, X.clock, X.frames, X.room, X.hears, X.method, X.code, (X.here.setHeapUsed s₂.heap s₂.slotsUsed).setVm hW'.alike, X.tail, State.WarmedH.trans X.warmed hW', X.limits, X.bytes, X.same.trans (hsame.setVm s.vm)⟩,
      ⟨g, mk, s₂, L, rfl, rfl, hqc, rfl, hL, rfl, rfl⟩, ?_⟩
    show Steps p.tables e below _ ((({ U with heap := s₂.heap, slotsUsed := s₂.slotsUsed } : State).setVm s₂.vm).setTop { g with pc := g.pc + len₂, stack := v.toList ++ g.stack })
    rw [← hs₂]
    exact hsteps
  · obtain ⟨e2, q2, q3, q4, q5, q6⟩ := id hsm
    have e3 : s₂ = ({ (U.calling g mk a).setFrames s₂.frames with heap := s₂.heap, slotsUsed := s₂.slotsUsed } : State).setVm s₂.vm := by
      have : s₂ = ({ s₂ with vm := (U.calling g mk a).vm } : State).setVm s₂.vm := rfl
      rw [e2] at this
      exact this
    have hf₂ : s₂.frames = .throwing q :: .java g :: U.frames.tail := hend
    have hW' : U.WarmedH s₂.vm := hW₂
    have hs₂ : s₂ = ((({ U with heap := s₂.heap, slotsUsed := s₂.slotsUsed } : State).setVm s₂.vm).setTop g).pushFrame (.throwing q) := by
      refine e3.trans ?_
      rw [hf₂, State.calling_eq h.top, State.setFrames_setFrames, State.pushFrame, State.frames_setTop _ hr', State.setTop_of_frames _ hr', State.setFrames_setFrames, hr]
      rfl
    have hsame : U.sameButNew ({ U with heap := s₂.heap, slotsUsed := s₂.slotsUsed } : State) L mc ms := by
      refine ⟨?_, q2, q3, q4, q5, q6⟩
      obtain ⟨t, ht, -⟩ := State.frames_cons hr
      show ({ U with heap := s₂.heap, slotsUsed := s₂.slotsUsed } : State) = { U.setFrames U.frames with heap := s₂.heap, slotsUsed := s₂.slotsUsed }
      rw [State.setFrames_self ht]
    subst hg
    refine Or.inr ⟨q, ⟨(({ U with heap := s₂.heap, slotsUsed := s₂.slotsUsed } : State).setVm s₂.vm), Ls ++ L, c0 + mc, s0 + ms⟩,
      ⟨X.admits, X.cas, X.clock, X.frames, X.room, X.hears, X.method, X.code, (X.here.setHeapUsed s₂.heap s₂.slotsUsed).setVm hW'.alike, X.tail, State.WarmedH.trans X.warmed hW', X.limits, X.bytes, X.same.trans (hsame.setVm s.vm)⟩,
      ⟨g, mk, s₂, L, E, ce, rfl, rfl, hx, hce, hcv, hcl, rfl, hL, rfl, rfl⟩, ?_⟩
    show Steps p.tables e below _ (((({ U with heap := s₂.heap, slotsUsed := s₂.slotsUsed } : State).setVm s₂.vm).setTop g).pushFrame (.throwing q))
    rw [← hs₂]
    exact hsteps
end Payer
section Calls
variable {p : Program} {l : Launch} {e : Env} {R : Room} {s : State} {m : MethodId} {args : Array Value} {below : List Frame} {meth : Method} {c : Code} {T : State} {locs : List Loc} {cells slots : Nat}
theorem vx_callV (X : Stand p l e R s m args below meth c T locs cells slots) (hexec : p.tables.exec = Jvm.exec) {own C : String} {index : Nat} {y : MethodName} {bytes : ByteArray} {maxL : Nat} {ret : Option FieldType}
    (hown : s.vm.findClass own = some m.cls) (hlink : (Cond.methodLink own index y).before args s = true) (hinst : (Cond.instanceMethod y).before args s = true) (hsel : (Cond.selects C y y).before args s = true)
    (hcode : (Cond.code y bytes maxL ret).before args s = true) (hy : y.cls ≠ "java/lang/invoke/MethodHandle" ∧ y.cls ≠ "java/lang/invoke/VarHandle")
    {W9 : Nat} {Pre : Pt → Array Value → Prop} {Post : Pt → Array Value → Option Value → Pt → Prop} {PostX : Pt → Array Value → Addr → Pt → Prop} (hK : vx_Back l R p e below s args y 3 W9 Pre Post PostX)
    {b : Addr} {cellB : Cell} (hcell : T.heap[b]? = some cellB) (hobj : cellB.vm.isStatics = false) (hcls : s.vm.findClass C = some cellB.cls)
    {g : JFrame} (hg : g.method = m) (hsize : g.locals.size = c.maxLocals) {argsL rest : List Value} (hlen : ∀ sig, parseMethodDescriptor y.desc = some sig → argsL.length = sig.parameters.length)
    (hstack : g.stack = argsL.reverse ++ .ref b :: rest) (hW : 2 * g.monitorRoom + (rest.map fun v => v.category).sum ≤ W9) (hdg : decode c.code g.pc = .ok (.invokevirtual index, 3))
    (hpre : ∀ vm₁, s.WarmedH vm₁ → Pre ⟨T.setVm vm₁, locs, cells, slots⟩ (Value.ref b :: argsL).toArray) :
    (∃ (v : Option Value) (vm₁ : Vm) (B : Pt), s.WarmedH vm₁ ∧ Stand p l e R s m args below meth c B.U B.locs B.cells B.slots ∧ Post ⟨T.setVm vm₁, locs, cells, slots⟩ (Value.ref b :: argsL).toArray v B ∧
      ∀ target, Steps p.tables e below (B.U.setTop { g with pc := g.pc + 3, stack := v.toList ++ rest }) target → Steps p.tables e below (T.setTop g) target) ∨
    (∃ (q : Addr) (vm₁ : Vm) (B : Pt), s.WarmedH vm₁ ∧ Stand p l e R s m args below meth c B.U B.locs B.cells B.slots ∧ PostX ⟨T.setVm vm₁, locs, cells, slots⟩ (Value.ref b :: argsL).toArray q B ∧
      Steps p.tables e below (T.setTop g) ((B.U.setTop { g with stack := rest }).pushFrame (.throwing q))) := by
  obtain ⟨mk, methM, hnamed, hmethM, hstM, habM⟩ := Cond.instanceMethod_spec hinst
  obtain ⟨methM', cM, hmethM', -, -, -, -, -, -, hsigM⟩ := Cond.code_spec hnamed hcode
  cases hmethM.symm.trans hmethM'
  obtain ⟨c2, r2, m2, q1, q2, q3, q4, kP, hkP, hkPi⟩ := Cond.selects_spec hsel
  cases hcls.symm.trans q1
  cases (State.methodFound?_of_named hnamed hy).symm.trans q2
  cases hnamed.symm.trans q3
  have hselP : selectMethod e.platform s.vm cellB.cls mk = .method mk := by rw [Launch.admits_selectMethod X.admits]; exact q4
  obtain ⟨vm₁, X₁, hstep₁⟩ := X.invokevirtual hexec hown hlink hnamed hmethM hstM hkP hkPi hy (a := b) (cell := cellB) hcell
    (fun z h => by rw [h] at hobj; cases hobj) hselP hmethM habM hkP hkPi (g := g) hg (argsL := argsL) (rest := rest) (hlen _ hsigM) hstack hdg
  rcases hK m meth c ⟨T.setVm vm₁, locs, cells, slots⟩ { g with stack := rest } (.invokevirtual index) mk (Value.ref b :: argsL).toArray X₁ hg hsize hdg hW (X₁.named hnamed) (hpre vm₁ X₁.warmed) with ⟨v, B, X', hpost, hsteps⟩ | ⟨q, B, X', hpost, hsteps⟩
  · exact Or.inl ⟨v, vm₁, B, X₁.warmed, X', hpost, fun target h => hstep₁ _ fun acts => by rw [doInvoke_state]; exact hsteps.trans h⟩
  · exact Or.inr ⟨q, vm₁, B, X₁.warmed, X', hpost, hstep₁ _ fun acts => by rw [doInvoke_state]; exact hsteps⟩
theorem vx_callS (X : Stand p l e R s m args below meth c T locs cells slots) (hexec : p.tables.exec = Jvm.exec) {own : String} {index : Nat} {y : MethodName} {bytes : ByteArray} {maxL : Nat} {ret : Option FieldType}
    (hown : s.vm.findClass own = some m.cls) (hlink : (Cond.methodLink own index y).before args s = true) (hstat : (Cond.static y).before args s = true) (hinit : (Cond.initialized y.cls).before args s = true)
    (hcode : (Cond.code y bytes maxL ret).before args s = true) (hy : y.cls ≠ "java/lang/invoke/MethodHandle" ∧ y.cls ≠ "java/lang/invoke/VarHandle")
    {W9 : Nat} {Pre : Pt → Array Value → Prop} {Post : Pt → Array Value → Option Value → Pt → Prop} {PostX : Pt → Array Value → Addr → Pt → Prop} (hK : vx_Back l R p e below s args y 3 W9 Pre Post PostX)
    {g : JFrame} (hg : g.method = m) (hsize : g.locals.size = c.maxLocals) {argsL rest : List Value} (hlen : ∀ sig, parseMethodDescriptor y.desc = some sig → argsL.length = sig.parameters.length)
    (hstack : g.stack = argsL.reverse ++ rest) (hW : 2 * g.monitorRoom + (rest.map fun v => v.category).sum ≤ W9) (hdg : decode c.code g.pc = .ok (.invokestatic index, 3))
    (hpre : ∀ vm₁, s.WarmedH vm₁ → Pre ⟨T.setVm vm₁, locs, cells, slots⟩ argsL.toArray) :
    (∃ (v : Option Value) (vm₁ : Vm) (B : Pt), s.WarmedH vm₁ ∧ Stand p l e R s m args below meth c B.U B.locs B.cells B.slots ∧ Post ⟨T.setVm vm₁, locs, cells, slots⟩ argsL.toArray v B ∧
      ∀ target, Steps p.tables e below (B.U.setTop { g with pc := g.pc + 3, stack := v.toList ++ rest }) target → Steps p.tables e below (T.setTop g) target) ∨
    (∃ (q : Addr) (vm₁ : Vm) (B : Pt), s.WarmedH vm₁ ∧ Stand p l e R s m args below meth c B.U B.locs B.cells B.slots ∧ PostX ⟨T.setVm vm₁, locs, cells, slots⟩ argsL.toArray q B ∧
      Steps p.tables e below (T.setTop g) ((B.U.setTop { g with stack := rest }).pushFrame (.throwing q))) := by
  obtain ⟨mk, hnamed⟩ := Cond.code_named hcode
  obtain ⟨methM, cM, hmethM, -, -, -, -, -, -, hsigM⟩ := Cond.code_spec hnamed hcode
  have hstatic : methM.isStatic = true := Cond.static_spec hnamed hmethM hstat
  obtain ⟨kP, hkP, -⟩ := className_of_methodNamed hnamed
  have hinitP : kP.init = .initialized := Cond.initialized_spec (findClass_of_methodNamed hnamed) hkP hinit
  obtain ⟨vm₁, X₁, hstep₁⟩ := X.invokestatic hexec hown hlink hnamed hmethM hstatic hkP hinitP hy (g := g) hg (argsL := argsL) (rest := rest) (hlen _ hsigM) hstack hdg
  rcases hK m meth c ⟨T.setVm vm₁, locs, cells, slots⟩ { g with stack := rest } (.invokestatic index) mk argsL.toArray X₁ hg hsize hdg hW (X₁.named hnamed) (hpre vm₁ X₁.warmed) with ⟨v, B, X', hpost, hsteps⟩ | ⟨q, B, X', hpost, hsteps⟩
  · exact Or.inl ⟨v, vm₁, B, X₁.warmed, X', hpost, fun target h => hstep₁ _ fun acts => by rw [doInvoke_state]; exact hsteps.trans h⟩
  · exact Or.inr ⟨q, vm₁, B, X₁.warmed, X', hpost, hstep₁ _ fun acts => by rw [doInvoke_state]; exact hsteps⟩
end Calls
theorem vx_cls {s : State} {T : State} {vm₁ : Vm} {E : String} {k : ClassId} (hW : s.WarmedH vm₁) (h : (T.setVm vm₁).vm.findClass E = some k) : s.vm.findClass E = some k := by
  have h1 : vm₁.findClass E = some k := h
  rw [hW.alike.findClass] at h1
  exact h1
/-- the method's frame g, with q thrown over it -/
def vx_W (p : Program) (l : Launch) (e : Env) (R : Room) (s : State) (m : MethodId) (args : Array Value) (below : List Frame) (meth : Method) (c : Code) (H : Heap) (locs : List Loc) (cells slots : Nat) (Q : State → Prop) (g : JFrame) (q : Addr) : Prop :=
  ∀ T : State, T.heap = H → Stand p l e R s m args below meth c T locs cells slots → ∃ t, Steps p.tables e below ((T.setTop g).pushFrame (.throwing q)) t ∧ Q t
def vx_Run (p : Program) (l : Launch) (e : Env) (R : Room) (s : State) (m : MethodId) (args : Array Value) (below : List Frame) (meth : Method) (c : Code) (H : Heap) (locs : List Loc) (cells slots mc ms : Nat) (g : JFrame) (rest : List Value) (Qa : State → Outcome → State → Prop) (XC : String → State → State → Prop) (free : Addr → Prop) : Prop :=
  ∀ T : State, T.heap = H → Stand p l e R s m args below meth c T locs cells slots →
    (∃ (v : Option Value) (st₀ t T' : State) (L : List Loc), st₀.heap = H ∧ Stand p l e R s m args below meth c T' (locs ++ L) (cells + mc) (slots + ms) ∧ (∀ q ∈ L, free q.base) ∧ T'.heap = t.heap ∧ T'.vm = t.vm ∧ Qa st₀ (.returned v) t ∧
      Goes p e below T g T' { g with pc := g.pc + 3, stack := v.toList ++ rest }) ∨
    (∃ (q : Addr) (st₀ t T' : State) (L : List Loc) (E : String) (ce : Cell), st₀.heap = H ∧ Stand p l e R s m args below meth c T' (locs ++ L) (cells + mc) (slots + ms) ∧ (∀ z ∈ L, free z.base) ∧ T'.heap = t.heap ∧ T'.vm = t.vm ∧ XC E st₀ t ∧ t.heap[q]? = some ce ∧ ce.vm = .none ∧ s.vm.findClass E = some ce.cls ∧
      Steps p.tables e below (T.setTop g) ((T'.setTop { g with stack := rest }).pushFrame (.throwing q)))
def vx_X {S : Type} (px : S → Prop) (B : String → S → State → Prop) (A : Nat → Prop) : String → State → State → Prop := fun E st t => ∃ u : S, px u ∧ B E u t ∧ va_F A st t
section Runs
variable {p : Program} {l : Launch} {e : Env} {R : Room} {s : State} {m : MethodId} {args : Array Value} {below : List Frame} {meth : Method} {c : Code} {H : Heap} {locs : List Loc} {cells slots : Nat}
variable {y : MethodName} {bytes cc : ByteArray} {maxL nL mc ms n index : Nat} {ret : Option FieldType} {ws : List Cond} {rm : Room} {Pc : Array Value → State → Prop} {Qc : Array Value → State → Outcome → State → Prop} {XC : String → State → State → Prop} {free : Addr → Prop} {Ts : List Cond} {own C : String} {b : Addr} {As rest : List Value} {g : JFrame}
theorem vx_callBack (cb : CallB R s args own index y bytes maxL ret ws rm mc ms n) (hM : vx_Met l y ws rm Pc Qc XC mc ms free) (hbl : FrameBlind Pc) : vx_Back l R p e below s args y 3 8 (PreOf R mc ms Pc) (PostOf Qc mc ms free) (vx_Post XC mc ms free) := by
  obtain ⟨hrc, hrs, hfr, hlo, hws, hcw, -, hini, -⟩ := cb
  exact vx_back (bytes := bytes) (maxL := maxL) (ret := ret) hM hbl hrc hrs hfr hlo hws hcw (fun a' U hW => word_at hW (Or.inl (by first | rfl | simp [Cond.onTables, Cond.keeps, Cond.steady])) hini)
theorem vx_runV (S : CallFix p m c cc nL s args Ts own) (hM : vx_Met l y ws rm Pc Qc XC mc ms free) (cw : CallW R s args own C index y bytes maxL ret ws rm mc ms n) (hp : PreV s H C b Pc As)
    (hg : g.method = m) (hn : As.length = n) (hsize : g.locals.size = nL) (hstack : g.stack = As.reverse ++ .ref b :: rest) (hW : 2 * g.monitorRoom + (rest.map fun v => v.category).sum ≤ 8) (hdg : decode cc g.pc = .ok (.invokevirtual index, 3)) (hf : cells + mc ≤ R.cells ∧ slots + ms ≤ R.slots) :
    vx_Run p l e R s m args below meth c H locs cells slots mc ms g rest (Qc (Value.ref b :: As).toArray) XC free := by
  have hK : vx_Back l R p e below s args y 3 8 (PreOf R mc ms Pc) (PostOf Qc mc ms free) (vx_Post XC mc ms free) := vx_callBack cw.1 hM hp.1
  obtain ⟨⟨-, -, -, -, -, -, hcode, -, hy, hlen, hl⟩, hin, hse⟩ := cw
  obtain ⟨hx, hb, hml, ho, -⟩ := S
  obtain ⟨-, ⟨cellB, hcB, hoB, hclB⟩, hPc⟩ := hp
  intro T hT X
  rcases vx_callV X hx (C := C) (bytes := bytes) (maxL := maxL) (ret := ret) ho hl hin hse hcode hy hK (by rw [hT]; exact hcB) hoB hclB hg (hsize.trans hml.symm) (argsL := As) (rest := rest) (fun sig h => hn.trans (hlen sig h)) hstack hW (by rw [hb]; exact hdg)
    (fun vm₁ hW₁ => ⟨hf.1, hf.2, hPc (T.setVm vm₁) hT hW₁⟩) with ⟨v, vm₁, ⟨U', l2, c2, s2⟩, hW₁, X', ⟨g', mk, t, L, e1, e2, hq, h1, hL, h2, h3⟩, st⟩ | ⟨q, vm₁, ⟨U', l2, c2, s2⟩, hW₁, X', ⟨g', mk, t, L, E, ce, e1, e2, hq, hce, hcv, hcl, h1, hL, h2, h3⟩, st⟩
  · dsimp only [Pt.U, Pt.locs, Pt.cells, Pt.slots] at X' e1 e2 h1 h2 h3 st
    subst h1; subst h2; subst h3
    exact Or.inl ⟨v, (T.setVm vm₁).calling g' mk (Value.ref b :: As).toArray, t, U', L, hT, X', hL, e1, e2, hq, st⟩
  · dsimp only [Pt.U, Pt.locs, Pt.cells, Pt.slots] at X' e1 e2 h1 h2 h3 st hcl
    subst h1; subst h2; subst h3
    exact Or.inr ⟨q, (T.setVm vm₁).calling g' mk (Value.ref b :: As).toArray, t, U', L, E, ce, hT, X', hL, e1, e2, hq, hce, hcv, vx_cls hW₁ hcl, st⟩
theorem vx_runS (S : CallFix p m c cc nL s args Ts own) (hM : vx_Met l y ws rm Pc Qc XC mc ms free) (cw : CallB R s args own index y bytes maxL ret ws rm mc ms n ∧ (Cond.static y).before args s = true) (hp : PreS s H Pc As)
    (hg : g.method = m) (hn : As.length = n) (hsize : g.locals.size = nL) (hstack : g.stack = As.reverse ++ rest) (hW : 2 * g.monitorRoom + (rest.map fun v => v.category).sum ≤ 8) (hdg : decode cc g.pc = .ok (.invokestatic index, 3)) (hf : cells + mc ≤ R.cells ∧ slots + ms ≤ R.slots) :
    vx_Run p l e R s m args below meth c H locs cells slots mc ms g rest (Qc As.toArray) XC free := by
  have hK : vx_Back l R p e below s args y 3 8 (PreOf R mc ms Pc) (PostOf Qc mc ms free) (vx_Post XC mc ms free) := vx_callBack cw.1 hM hp.1
  obtain ⟨⟨-, -, -, -, -, -, hcode, hini, hy, hlen, hl⟩, hstt⟩ := cw
  obtain ⟨hx, hb, hml, ho, -⟩ := S
  intro T hT X
  rcases vx_callS X hx (bytes := bytes) (maxL := maxL) (ret := ret) ho hl hstt hini hcode hy hK hg (hsize.trans hml.symm) (argsL := As) (rest := rest) (fun sig h => hn.trans (hlen sig h)) hstack hW (by rw [hb]; exact hdg)
    (fun vm₁ hW₁ => ⟨hf.1, hf.2, hp.2 (T.setVm vm₁) hT hW₁⟩) with ⟨v, vm₁, ⟨U', l2, c2, s2⟩, hW₁, X', ⟨g', mk, t, L, e1, e2, hq, h1, hL, h2, h3⟩, st⟩ | ⟨q, vm₁, ⟨U', l2, c2, s2⟩, hW₁, X', ⟨g', mk, t, L, E, ce, e1, e2, hq, hce, hcv, hcl, h1, hL, h2, h3⟩, st⟩
  · dsimp only [Pt.U, Pt.locs, Pt.cells, Pt.slots] at X' e1 e2 h1 h2 h3 st
    subst h1; subst h2; subst h3
    exact Or.inl ⟨v, (T.setVm vm₁).calling g' mk As.toArray, t, U', L, hT, X', hL, e1, e2, hq, st⟩
  · dsimp only [Pt.U, Pt.locs, Pt.cells, Pt.slots] at X' e1 e2 h1 h2 h3 st hcl
    subst h1; subst h2; subst h3
    exact Or.inr ⟨q, (T.setVm vm₁).calling g' mk As.toArray, t, U', L, E, ce, hT, X', hL, e1, e2, hq, hce, hcv, vx_cls hW₁ hcl, st⟩
end Runs
section Rows
variable {p : Program} {l : Launch} {e : Env} {R : Room} {s : State} {m : MethodId} {args : Array Value} {below : List Frame} {meth : Method} {c : Code} {H : Heap} {locs : List Loc} {cells slots : Nat} {Q : State → Prop}
variable {mc ms : Nat} {free : Addr → Prop} {A0 A1 : Nat → Prop} {H0 : Heap} {a : Array Value} {pc : Nat} {ls : Array Slot} {st0 rest : List Value}
theorem vx_keep {st₀ t T' : State} {L : List Loc} (h0 : st₀.heap = H) (e1 : T'.heap = t.heap) (hS : va_S A0 H0 H locs) (hA : ∀ q, q < H.size → A1 q → A0 q) (hf : ∀ q, free q → A0 q) (hL : ∀ q ∈ L, free q.base) (hF : va_F A1 st₀ t) :
    H.size ≤ T'.heap.size ∧ (∀ q : Nat, q < H.size → ¬ A1 q → T'.heap[q]? = H[q]?) ∧ va_S A0 H0 T'.heap (locs ++ L) := by
  obtain ⟨hz, hk⟩ := hF
  rw [h0] at hz hk
  exact ⟨by rw [e1]; exact hz, fun q h1 h2 => by rw [e1]; exact hk q h1 h2,
    ⟨Nat.le_trans hS.1 (by rw [e1]; exact hz), fun q h1 h2 => by rw [e1, hk q (Nat.lt_of_lt_of_le h1 hS.1) (fun z => h2 (hA q (Nat.lt_of_lt_of_le h1 hS.1) z))]; exact hS.2.1 q h1 h2, fun q hq => by
      rcases List.mem_append.mp hq with h | h
      · exact hS.2.2 q h
      · exact hf _ (hL q h)⟩⟩
theorem vx_calli {S SX : Type} {post : Int32 → S → Prop} {px : SX → Prop} {B : S → State → Prop} {BX : String → SX → State → Prop} {AX : Nat → Prop} (hr : vx_Run p l e R s m args below meth c H locs cells slots mc ms (F0 m pc ls st0) rest (va_Qi post B A1 a) (vx_X px BX AX) free) (hS : va_S A0 H0 H locs) (hA : ∀ q, q < H.size → A1 q → A0 q) (hf : ∀ q, free q → A0 q) (hAX : ∀ q, q < H.size → AX q → A0 q)
    (kx : ∀ (E : String) (ce : Cell) (q9 : Addr) (u : SX) (t : State) (H1 : Heap) (locs1 : List Loc), t.heap = H1 → s.vm.Alike t.vm → px u → BX E u t → H.size ≤ H1.size → (∀ q : Nat, q < H.size → ¬ AX q → H1[q]? = H[q]?) → va_S A0 H0 H1 locs1 → H1[q9]? = some ce → ce.vm = .none → s.vm.findClass E = some ce.cls → vx_W p l e R s m args below meth c H1 locs1 (cells + mc) (slots + ms) Q (F0 m pc ls rest) q9)
    (kk : ∀ (r : Int32) (u : S) (t : State) (H1 : Heap) (locs1 : List Loc), t.heap = H1 → s.vm.Alike t.vm → post r u → B u t → H.size ≤ H1.size → (∀ q : Nat, q < H.size → ¬ A1 q → H1[q]? = H[q]?) → va_S A0 H0 H1 locs1 → W p l e R s m args below meth c H1 locs1 (cells + mc) (slots + ms) Q (F0 m (pc + 3) ls (.int r :: rest))) : W p l e R s m args below meth c H locs cells slots Q (F0 m pc ls st0) := by
  intro T hT X
  rcases hr T hT X with ⟨v, st₀, t, T', L, h0, X', hL, e1, e2, ⟨⟨r, u, hv, hp, hb⟩, hF⟩, st⟩ | ⟨q, st₀, t, T', L, E, ce, h0, X', hL, e1, e2, ⟨u, hp, hb, hF⟩, hce, hcv, hcl, st⟩
  · cases hv
    obtain ⟨k1, k2, k3⟩ := vx_keep h0 e1 hS hA hf hL hF
    obtain ⟨t2, a1, b1⟩ := kk r u t T'.heap (locs ++ L) e1.symm (by rw [← e2]; exact X'.warmed.alike) hp hb k1 k2 k3 T' rfl X'
    exact ⟨t2, st t2 a1, b1⟩
  · obtain ⟨k1, k2, k3⟩ := vx_keep h0 e1 hS hAX hf hL hF
    obtain ⟨t2, a1, b1⟩ := kx E ce q u t T'.heap (locs ++ L) e1.symm (by rw [← e2]; exact X'.warmed.alike) hp hb k1 k2 k3 (by rw [e1]; exact hce) hcv hcl T' rfl X'
    exact ⟨t2, st.trans a1, b1⟩
theorem vx_calll {S SX : Type} {post : Int64 → S → Prop} {px : SX → Prop} {B : S → State → Prop} {BX : String → SX → State → Prop} {AX : Nat → Prop} (hr : vx_Run p l e R s m args below meth c H locs cells slots mc ms (F0 m pc ls st0) rest (va_Ql post B A1 a) (vx_X px BX AX) free) (hS : va_S A0 H0 H locs) (hA : ∀ q, q < H.size → A1 q → A0 q) (hf : ∀ q, free q → A0 q) (hAX : ∀ q, q < H.size → AX q → A0 q)
    (kx : ∀ (E : String) (ce : Cell) (q9 : Addr) (u : SX) (t : State) (H1 : Heap) (locs1 : List Loc), t.heap = H1 → s.vm.Alike t.vm → px u → BX E u t → H.size ≤ H1.size → (∀ q : Nat, q < H.size → ¬ AX q → H1[q]? = H[q]?) → va_S A0 H0 H1 locs1 → H1[q9]? = some ce → ce.vm = .none → s.vm.findClass E = some ce.cls → vx_W p l e R s m args below meth c H1 locs1 (cells + mc) (slots + ms) Q (F0 m pc ls rest) q9)
    (kk : ∀ (r : Int64) (u : S) (t : State) (H1 : Heap) (locs1 : List Loc), t.heap = H1 → s.vm.Alike t.vm → post r u → B u t → H.size ≤ H1.size → (∀ q : Nat, q < H.size → ¬ A1 q → H1[q]? = H[q]?) → va_S A0 H0 H1 locs1 → W p l e R s m args below meth c H1 locs1 (cells + mc) (slots + ms) Q (F0 m (pc + 3) ls (.long r :: rest))) : W p l e R s m args below meth c H locs cells slots Q (F0 m pc ls st0) := by
  intro T hT X
  rcases hr T hT X with ⟨v, st₀, t, T', L, h0, X', hL, e1, e2, ⟨⟨r, u, hv, hp, hb⟩, hF⟩, st⟩ | ⟨q, st₀, t, T', L, E, ce, h0, X', hL, e1, e2, ⟨u, hp, hb, hF⟩, hce, hcv, hcl, st⟩
  · cases hv
    obtain ⟨k1, k2, k3⟩ := vx_keep h0 e1 hS hA hf hL hF
    obtain ⟨t2, a1, b1⟩ := kk r u t T'.heap (locs ++ L) e1.symm (by rw [← e2]; exact X'.warmed.alike) hp hb k1 k2 k3 T' rfl X'
    exact ⟨t2, st t2 a1, b1⟩
  · obtain ⟨k1, k2, k3⟩ := vx_keep h0 e1 hS hAX hf hL hF
    obtain ⟨t2, a1, b1⟩ := kx E ce q u t T'.heap (locs ++ L) e1.symm (by rw [← e2]; exact X'.warmed.alike) hp hb k1 k2 k3 (by rw [e1]; exact hce) hcv hcl T' rfl X'
    exact ⟨t2, st.trans a1, b1⟩
theorem vx_callf {S SX : Type} {post : UInt32 → S → Prop} {px : SX → Prop} {B : S → State → Prop} {BX : String → SX → State → Prop} {AX : Nat → Prop} (hr : vx_Run p l e R s m args below meth c H locs cells slots mc ms (F0 m pc ls st0) rest (va_Qf post B A1 a) (vx_X px BX AX) free) (hS : va_S A0 H0 H locs) (hA : ∀ q, q < H.size → A1 q → A0 q) (hf : ∀ q, free q → A0 q) (hAX : ∀ q, q < H.size → AX q → A0 q)
    (kx : ∀ (E : String) (ce : Cell) (q9 : Addr) (u : SX) (t : State) (H1 : Heap) (locs1 : List Loc), t.heap = H1 → s.vm.Alike t.vm → px u → BX E u t → H.size ≤ H1.size → (∀ q : Nat, q < H.size → ¬ AX q → H1[q]? = H[q]?) → va_S A0 H0 H1 locs1 → H1[q9]? = some ce → ce.vm = .none → s.vm.findClass E = some ce.cls → vx_W p l e R s m args below meth c H1 locs1 (cells + mc) (slots + ms) Q (F0 m pc ls rest) q9)
    (kk : ∀ (r : UInt32) (u : S) (t : State) (H1 : Heap) (locs1 : List Loc), t.heap = H1 → s.vm.Alike t.vm → post r u → B u t → H.size ≤ H1.size → (∀ q : Nat, q < H.size → ¬ A1 q → H1[q]? = H[q]?) → va_S A0 H0 H1 locs1 → W p l e R s m args below meth c H1 locs1 (cells + mc) (slots + ms) Q (F0 m (pc + 3) ls (.float r :: rest))) : W p l e R s m args below meth c H locs cells slots Q (F0 m pc ls st0) := by
  intro T hT X
  rcases hr T hT X with ⟨v, st₀, t, T', L, h0, X', hL, e1, e2, ⟨⟨r, u, hv, hp, hb⟩, hF⟩, st⟩ | ⟨q, st₀, t, T', L, E, ce, h0, X', hL, e1, e2, ⟨u, hp, hb, hF⟩, hce, hcv, hcl, st⟩
  · cases hv
    obtain ⟨k1, k2, k3⟩ := vx_keep h0 e1 hS hA hf hL hF
    obtain ⟨t2, a1, b1⟩ := kk r u t T'.heap (locs ++ L) e1.symm (by rw [← e2]; exact X'.warmed.alike) hp hb k1 k2 k3 T' rfl X'
    exact ⟨t2, st t2 a1, b1⟩
  · obtain ⟨k1, k2, k3⟩ := vx_keep h0 e1 hS hAX hf hL hF
    obtain ⟨t2, a1, b1⟩ := kx E ce q u t T'.heap (locs ++ L) e1.symm (by rw [← e2]; exact X'.warmed.alike) hp hb k1 k2 k3 (by rw [e1]; exact hce) hcv hcl T' rfl X'
    exact ⟨t2, st.trans a1, b1⟩
theorem vx_calld {S SX : Type} {post : UInt64 → S → Prop} {px : SX → Prop} {B : S → State → Prop} {BX : String → SX → State → Prop} {AX : Nat → Prop} (hr : vx_Run p l e R s m args below meth c H locs cells slots mc ms (F0 m pc ls st0) rest (va_Qd post B A1 a) (vx_X px BX AX) free) (hS : va_S A0 H0 H locs) (hA : ∀ q, q < H.size → A1 q → A0 q) (hf : ∀ q, free q → A0 q) (hAX : ∀ q, q < H.size → AX q → A0 q)
    (kx : ∀ (E : String) (ce : Cell) (q9 : Addr) (u : SX) (t : State) (H1 : Heap) (locs1 : List Loc), t.heap = H1 → s.vm.Alike t.vm → px u → BX E u t → H.size ≤ H1.size → (∀ q : Nat, q < H.size → ¬ AX q → H1[q]? = H[q]?) → va_S A0 H0 H1 locs1 → H1[q9]? = some ce → ce.vm = .none → s.vm.findClass E = some ce.cls → vx_W p l e R s m args below meth c H1 locs1 (cells + mc) (slots + ms) Q (F0 m pc ls rest) q9)
    (kk : ∀ (r : UInt64) (u : S) (t : State) (H1 : Heap) (locs1 : List Loc), t.heap = H1 → s.vm.Alike t.vm → post r u → B u t → H.size ≤ H1.size → (∀ q : Nat, q < H.size → ¬ A1 q → H1[q]? = H[q]?) → va_S A0 H0 H1 locs1 → W p l e R s m args below meth c H1 locs1 (cells + mc) (slots + ms) Q (F0 m (pc + 3) ls (.double r :: rest))) : W p l e R s m args below meth c H locs cells slots Q (F0 m pc ls st0) := by
  intro T hT X
  rcases hr T hT X with ⟨v, st₀, t, T', L, h0, X', hL, e1, e2, ⟨⟨r, u, hv, hp, hb⟩, hF⟩, st⟩ | ⟨q, st₀, t, T', L, E, ce, h0, X', hL, e1, e2, ⟨u, hp, hb, hF⟩, hce, hcv, hcl, st⟩
  · cases hv
    obtain ⟨k1, k2, k3⟩ := vx_keep h0 e1 hS hA hf hL hF
    obtain ⟨t2, a1, b1⟩ := kk r u t T'.heap (locs ++ L) e1.symm (by rw [← e2]; exact X'.warmed.alike) hp hb k1 k2 k3 T' rfl X'
    exact ⟨t2, st t2 a1, b1⟩
  · obtain ⟨k1, k2, k3⟩ := vx_keep h0 e1 hS hAX hf hL hF
    obtain ⟨t2, a1, b1⟩ := kx E ce q u t T'.heap (locs ++ L) e1.symm (by rw [← e2]; exact X'.warmed.alike) hp hb k1 k2 k3 (by rw [e1]; exact hce) hcv hcl T' rfl X'
    exact ⟨t2, st.trans a1, b1⟩
theorem vx_callv {S SX : Type} {post : S → Prop} {px : SX → Prop} {B : S → State → Prop} {BX : String → SX → State → Prop} {AX : Nat → Prop} (hr : vx_Run p l e R s m args below meth c H locs cells slots mc ms (F0 m pc ls st0) rest (va_Qv post B A1 a) (vx_X px BX AX) free) (hS : va_S A0 H0 H locs) (hA : ∀ q, q < H.size → A1 q → A0 q) (hf : ∀ q, free q → A0 q) (hAX : ∀ q, q < H.size → AX q → A0 q)
    (kx : ∀ (E : String) (ce : Cell) (q9 : Addr) (u : SX) (t : State) (H1 : Heap) (locs1 : List Loc), t.heap = H1 → s.vm.Alike t.vm → px u → BX E u t → H.size ≤ H1.size → (∀ q : Nat, q < H.size → ¬ AX q → H1[q]? = H[q]?) → va_S A0 H0 H1 locs1 → H1[q9]? = some ce → ce.vm = .none → s.vm.findClass E = some ce.cls → vx_W p l e R s m args below meth c H1 locs1 (cells + mc) (slots + ms) Q (F0 m pc ls rest) q9)
    (kk : ∀ (u : S) (t : State) (H1 : Heap) (locs1 : List Loc), t.heap = H1 → s.vm.Alike t.vm → post u → B u t → H.size ≤ H1.size → (∀ q : Nat, q < H.size → ¬ A1 q → H1[q]? = H[q]?) → va_S A0 H0 H1 locs1 → W p l e R s m args below meth c H1 locs1 (cells + mc) (slots + ms) Q (F0 m (pc + 3) ls (rest))) : W p l e R s m args below meth c H locs cells slots Q (F0 m pc ls st0) := by
  intro T hT X
  rcases hr T hT X with ⟨v, st₀, t, T', L, h0, X', hL, e1, e2, ⟨⟨u, hv, hp, hb⟩, hF⟩, st⟩ | ⟨q, st₀, t, T', L, E, ce, h0, X', hL, e1, e2, ⟨u, hp, hb, hF⟩, hce, hcv, hcl, st⟩
  · cases hv
    obtain ⟨k1, k2, k3⟩ := vx_keep h0 e1 hS hA hf hL hF
    obtain ⟨t2, a1, b1⟩ := kk u t T'.heap (locs ++ L) e1.symm (by rw [← e2]; exact X'.warmed.alike) hp hb k1 k2 k3 T' rfl X'
    exact ⟨t2, st t2 a1, b1⟩
  · obtain ⟨k1, k2, k3⟩ := vx_keep h0 e1 hS hAX hf hL hF
    obtain ⟨t2, a1, b1⟩ := kx E ce q u t T'.heap (locs ++ L) e1.symm (by rw [← e2]; exact X'.warmed.alike) hp hb k1 k2 k3 (by rw [e1]; exact hce) hcv hcl T' rfl X'
    exact ⟨t2, st.trans a1, b1⟩
/-- caught by the row x of this method's table; the rows ahead don't take it -/
theorem vx_catch {own name : String} {E : String} {ce : Cell} {q : Addr} (hown : s.vm.findClass own = some m.cls) (pre : List ExceptionTableEntry) (x : ExceptionTableEntry) (suf : List ExceptionTableEntry) (hsplit : c.exceptionTable.toList = pre ++ x :: suf)
    (hpass : ∀ z ∈ pre, covers z pc = false ∨ (z.catchType ≠ 0 ∧ ∃ nm : String, (Cond.classLink own z.catchType nm).before args s = true ∧ va_Nc E nm s)) (hx : covers x pc = true) (h0 : x.catchType ≠ 0)
    (hlink : (Cond.classLink own x.catchType name).before args s = true) (hcast : (Cond.castable E name).before args s = true) (hcell : H[q]? = some ce) (hv : ce.vm = .none) (hcl : s.vm.findClass E = some ce.cls)
    (kk : W p l e R s m args below meth c H locs cells slots Q (F0 m x.handlerPc ls [.ref q])) : vx_W p l e R s m args below meth c H locs cells slots Q (F0 m pc ls rest) q := by
  intro T hT X
  have hpl : e.platform.magicAccessors = ({} : Platform).magicAccessors := by rw [X.admits.platform]
  obtain ⟨c3, c4, hc3, hc4, hasg⟩ := Cond.castable_spec hcast
  cases Option.some.inj (hc3.symm.trans hcl)
  obtain ⟨c5, hc5, hcl5⟩ := Cond.classLink_spec hown hlink e.platform hpl
  cases Option.some.inj (hc4.symm.trans hc5)
  obtain ⟨vm', X', st⟩ := X.thenCaughtThrough q (g := F0 m pc ls rest) rfl (Steps.refl _) (by rw [hT]; exact hcell) (by rw [hv]; rfl) (by obtain ⟨k9, h9, -⟩ := Vm.findClass_spec hcl; exact ⟨k9, h9⟩) pre x suf hsplit
    (fun z hz => by
      rcases hpass z hz with h | ⟨hz0, nm, hl1, hn1⟩
      · exact Or.inl h
      · obtain ⟨c6, hc6, hcl6⟩ := Cond.classLink_spec hown hl1 e.platform hpl
        obtain ⟨a8, b8, h1, h2, h3⟩ := hn1
        cases Option.some.inj (h1.symm.trans hcl)
        cases Option.some.inj (h2.symm.trans hc6)
        exact Or.inr ⟨hz0, _, hcl6, h3⟩) hx (Or.inr ⟨h0, c4, hcl5, hasg⟩)
  obtain ⟨t, a1, b1⟩ := kk (T.setVm vm') hT X'
  exact ⟨t, st.trans a1, b1⟩
end Rows
section Ends
variable {p : Program} {l : Launch} {e : Env} {R : Room} {s : State} {m : MethodId} {args : Array Value} {below : List Frame} {meth : Method} {c : Code} {H : Heap} {locs : List Loc} {cells slots : Nat} {Q : State → Prop}
variable {mc ms : Nat} {free : Addr → Prop} {A0 A1 : Nat → Prop} {H0 : Heap} {a : Array Value} {ls : Array Slot} {st0 rest : List Value}
variable {Qc : Array Value → State → Outcome → State → Prop} {XC : String → State → State → Prop}
/-- what a body that may throw owes at its end -/
def vx_MQ (below : List Frame) (Qc : Array Value → State → Outcome → State → Prop) (XC : String → State → State → Prop) (a : Array Value) (s : State) (mc ms : Nat) (free : Addr → Prop) : State → Prop := fun t =>
  ∃ o, t.status = .running ∧ Ended t below o ∧ vx_Q Qc XC mc ms free a s o t
theorem vx_ret {g : JFrame} {mc ms : Nat} (k : W p l e R s m args below meth c H locs cells slots (MQ below Qc args s mc ms free) g) : W p l e R s m args below meth c H locs cells slots (vx_MQ below Qc XC args s mc ms free) g := by
  intro T hT X
  obtain ⟨t, a1, o, b1, b2, b3, b4⟩ := k T hT X
  exact ⟨t, a1, o, b1, b2, Or.inl ⟨b3, b4⟩⟩
/-- not caught here: it goes on to the caller -/
theorem vx_widen {g : JFrame} {q : Addr} {k n : Nat} (h1 : cells ≤ k) (h2 : slots ≤ n) (kk : vx_W p l e R s m args below meth c H locs k n Q g q) : vx_W p l e R s m args below meth c H locs cells slots Q g q := fun T hT X => kk T hT (stand_widen X h1 h2)
theorem vx_out {pc : Nat} {E : String} {ce : Cell} {q : Addr} {mc ms : Nat} (hout : ∀ x ∈ c.exceptionTable.toList, covers x pc = false) (hlocks : meth.locks = false) (hcell : H[q]? = some ce) (hv : ce.vm = .none) (hcl : s.vm.findClass E = some ce.cls)
    (hx : ∀ t : State, t.heap = H → s.vm.Alike t.vm → XC E s t) (hf : ∀ z ∈ locs, free z.base) (hc : cells ≤ mc) (hs : slots ≤ ms) :
    vx_W p l e R s m args below meth c H locs cells slots (vx_MQ below Qc XC args s mc ms free) (F0 m pc ls rest) q := by
  intro T hT X
  obtain ⟨st1, hrun, hend, hW, hsm⟩ := X.leaveThrown q (g := F0 m pc ls rest) rfl rfl rfl hout hlocks
  have hcell9 : (T.setFrames (.throwing q :: below)).heap[q]? = some ce := by
    show T.heap[q]? = some ce
    rw [hT]; exact hcell
  exact ⟨_, st1, .threw q, hrun, hend, Or.inr ⟨q, rfl, E, ce, locs, hx _ hT hW.alike, hcell9, hv, hcl, hW, hsm.mono hc hs, hf⟩⟩
theorem vx_frame {U : State} {k n : Nat} (h : s.sameButNew ({ U with vm := s.vm } : State) locs k n) : s.heap.size ≤ U.heap.size ∧ ∀ q : Nat, q < s.heap.size → (∀ z ∈ locs, z.base ≠ q) → U.heap[q]? = s.heap[q]? := by
  obtain ⟨-, h2, -, -, -, h6⟩ := h
  refine ⟨h2, fun q hq hz => ?_⟩
  obtain ⟨c9, e1, e2, e3, e4⟩ := h6 q _ (Array.getElem?_eq_getElem hq)
  have hs : c9.slots = (s.heap[q]).slots := Array.ext_getElem? fun i => e4 i fun hm => hz _ hm rfl
  have h9 : c9 = s.heap[q] := by
    rw [hs] at e2
    exact e2
  have e5 : U.heap[q]? = some c9 := e1
  rw [e5, h9, Array.getElem?_eq_getElem hq]
/-- the words of a throw but the four that speak of the heap -/
def vx_no (w : Cond) : Bool := decide (w ≠ .isRef (.static Bundle.tN "UNASSIGNED_STACK" Bundle.steD)) && decide (w ≠ .isRef (.static Bundle.tN "SUPPRESSED_SENTINEL" Bundle.listD)) && decide (w ≠ .laysStatic Bundle.tN "UNASSIGNED_STACK" Bundle.steD) && decide (w ≠ .laysStatic Bundle.tN "SUPPRESSED_SENTINEL" Bundle.listD)
def vx_at0 (own : String) (ic : Nat) (X : String) (names : List String) : List Cond := (Bundle.ownAtoms0 own ic X names).filter vx_no
def vx_atS (own : String) (ic : Nat) (X : String) (names : List String) : List Cond := (Bundle.ownAtoms own ic X names).filter vx_no
/-- a word that the tables alone decide, or a good one -/
def vx_ot (w : Cond) : Bool := w.onTables || goodWord w
theorem vx_ot_at {args a' : Array Value} {s U : State} {w : Cond} (hW : s.WarmedH U.vm) (hvm : s.vm = U.vm) (hg : vx_ot w = true) (h : w.before args s = true) : w.before a' U = true := by
  simp only [vx_ot, Bool.or_eq_true] at hg
  rcases hg with hg | hg
  · exact va_tabs hg hvm h
  · exact word_at hW (good_of_word hg) h
/-- a list's words: the good ones out of the method's own list, the others by premises of their own -/
theorem vx_hat {args : Array Value} {s : State} {L B : List Cond} (h1 : ∀ w ∈ L.filter goodWord, w.before args s = true) (h2 : ∀ w ∈ L.filter (fun w => !goodWord w), w ∈ B) (h3 : ∀ w ∈ B, w.before args s = true) : ∀ w ∈ L, w.before args s = true := by
  intro w hw
  by_cases g : goodWord w = true
  · exact h1 w (List.mem_filter.mpr ⟨hw, g⟩)
  · refine h3 w (h2 w (List.mem_filter.mpr ⟨hw, ?_⟩))
    show (!goodWord w) = true
    cases hgw : goodWord w
    · rfl
    · exact absurd hgw g
theorem vx_c {args : Array Value} {s : State} {w : Cond} {B : List Cond} (h : w.before args s = true) (t : ∀ w ∈ B, w.before args s = true) : ∀ w' ∈ w :: B, w'.before args s = true := fun w' h' => (List.mem_cons.mp h').elim (fun e => by rw [e]; exact h) (t w')
theorem vx_n {args : Array Value} {s : State} : ∀ w ∈ ([] : List Cond), w.before args s = true := fun _ h => nomatch h
theorem vx_own {args : Array Value} {s : State} {L : List Cond} (h1 : ∀ w ∈ L.filter vx_no, w.before args s = true)
    (hU : (Cond.isRef (.static Bundle.tN "UNASSIGNED_STACK" Bundle.steD)).before args s = true) (hN : (Cond.isRef (.static Bundle.tN "SUPPRESSED_SENTINEL" Bundle.listD)).before args s = true)
    (lU : (Cond.laysStatic Bundle.tN "UNASSIGNED_STACK" Bundle.steD).before args s = true) (lN : (Cond.laysStatic Bundle.tN "SUPPRESSED_SENTINEL" Bundle.listD).before args s = true) : ∀ w ∈ L, w.before args s = true := by
  intro w hw
  by_cases e1 : w = .isRef (.static Bundle.tN "UNASSIGNED_STACK" Bundle.steD)
  · rw [e1]; exact hU
  · by_cases e2 : w = .isRef (.static Bundle.tN "SUPPRESSED_SENTINEL" Bundle.listD)
    · rw [e2]; exact hN
    · by_cases e3 : w = .laysStatic Bundle.tN "UNASSIGNED_STACK" Bundle.steD
      · rw [e3]; exact lU
      · by_cases e4 : w = .laysStatic Bundle.tN "SUPPRESSED_SENTINEL" Bundle.listD
        · rw [e4]; exact lN
        · exact h1 w (List.mem_filter.mpr ⟨hw, by unfold vx_no; rw [decide_eq_true e1, decide_eq_true e2, decide_eq_true e3, decide_eq_true e4]; rfl⟩)
/-- where a static field lies, its class's statics cell in H -/
def vx_L (C n d : String) (A : Nat → Prop) (U : State) (H : Heap) : Prop := ∃ (c : ClassId) (k : Class) (i : Nat) (f : Field) (a : Nat) (cell : Cell), U.vm.findClass C = some c ∧ U.fieldFound? C n d = some (c, k, i, f) ∧ f.isStatic = true ∧ k.statics = some a ∧ H[a]? = some cell ∧ cell.vm.isStatics = true ∧ cell.cls = c ∧ f.slot < cell.slots.size ∧ k.staticTypes[f.slot]? = some f.type ∧ ¬ A a
theorem vx_L.moved {C n d : String} {A : Nat → Prop} {u U : State} {H : Heap} (hvm : u.vm.Alike U.vm) (h : vx_L C n d A u H) : vx_L C n d A U H := by
  obtain ⟨c, k, i, f, a, cell, h1, h2, h3, h4, h5, h6, h7, h8, h9, h10⟩ := h
  obtain ⟨k', hi', he⟩ := State.fieldFound?_setVm hvm h2
  exact ⟨c, k', i, f, a, cell, by rw [hvm.findClass]; exact h1, hi', h3, by rw [he]; exact h4, h5, h6, h7, h8, by rw [he]; exact h9, h10⟩
theorem vx_L.kept {C n d : String} {A : Nat → Prop} {U : State} {H H1 : Heap} (h : vx_L C n d A U H) (hq : ∀ a : Nat, a < H.size → ¬ A a → H1[a]? = H[a]?) : vx_L C n d A U H1 := by
  obtain ⟨c, k, i, f, a, cell, h1, h2, h3, h4, h5, h6, h7, h8, h9, h10⟩ := h
  exact ⟨c, k, i, f, a, cell, h1, h2, h3, h4, by rw [hq a (Array.getElem?_eq_some_iff.mp h5).1 h10]; exact h5, h6, h7, h8, h9, h10⟩
theorem vx_L.narrow {C n d : String} {A B : Nat → Prop} {U : State} {H : Heap} (h : vx_L C n d A U H) (hAB : ∀ q, B q → A q) : vx_L C n d B U H := by
  obtain ⟨c, k, i, f, a, cell, h1, h2, h3, h4, h5, h6, h7, h8, h9, h10⟩ := h
  exact ⟨c, k, i, f, a, cell, h1, h2, h3, h4, h5, h6, h7, h8, h9, fun z => h10 (hAB _ z)⟩
theorem vx_L.word {C n d : String} {A : Nat → Prop} {s : State} {args : Array Value} (h : vx_L C n d A s s.heap) : (Cond.laysStatic C n d).before args s = true := by
  obtain ⟨c, k, i, f, a, cell, h1, h2, h3, h4, h5, h6, h7, h8, h9, -⟩ := h
  show (Cond.laysStatic C n d).holds args s none s [] = true
  exact Cond.laysStatic_of h1 h2 h3 h4 h5 h6 h7 h8 h9
/-- .. and what it holds: null or some reference -/
def vx_Zq (C n d : String) (A : Nat → Prop) (U : State) (H : Heap) : Prop := va_Zq C n d A U H ∧ vx_L C n d A U H
theorem vx_Zq.moved {C n d : String} {A : Nat → Prop} {u U : State} {H : Heap} (hvm : u.vm.Alike U.vm) (h : vx_Zq C n d A u H) : vx_Zq C n d A U H := ⟨va_Zq.moved hvm h.1, vx_L.moved hvm h.2⟩
theorem vx_Zq.kept {C n d : String} {A : Nat → Prop} {U : State} {H H1 : Heap} (h : vx_Zq C n d A U H) (hq : ∀ a : Nat, a < H.size → ¬ A a → H1[a]? = H[a]?) : vx_Zq C n d A U H1 := ⟨va_Zq.kept h.1 hq, vx_L.kept h.2 hq⟩
theorem vx_Zq.narrow {C n d : String} {A B : Nat → Prop} {U : State} {H : Heap} (h : vx_Zq C n d A U H) (hAB : ∀ q, B q → A q) : vx_Zq C n d B U H := ⟨va_Zq.narrow h.1 hAB, vx_L.narrow h.2 hAB⟩
theorem vx_Zqof {args : Array Value} {s : State} {C n d : String} {A : Nat → Prop} (hl : (Cond.laysStatic C n d).before args s = true) (hini : (Cond.initialized C).before args s = true) (h : (Cond.isRef (.static C n d)).before args s = true) (hA : ∀ a : Nat, a < s.heap.size → ¬ A a) : vx_Zq C n d A s s.heap := by
  refine ⟨va_Zqof hl hini h hA, ?_⟩
  obtain ⟨c, k, i, f, a, cell, h1, h2, h3, h4, h5, h6, h7, h8, h9⟩ := Cond.laysStatic_spec hl
  exact ⟨c, k, i, f, a, cell, h1, h2, h3, h4, h5, h6, h7, h8, h9, hA a (Array.getElem?_eq_some_iff.mp h5).1⟩
theorem vx_isRef {C n d : String} {v : Value} {A : Nat → Prop} {s : State} {args : Array Value} (h : va_Z C n d v A s s.heap) (hv : v.isRef = true) : (Cond.isRef (.static C n d)).before args s = true := by
  obtain ⟨cf, kf, fi, f, a, cell, h1, h2, h3, h4, h5, h6, h7, -⟩ := h
  have he : (Term.static C n d).eval args s none [] s = some v := by
    simp [Term.eval, State.fieldNamed?, h1, h2, h4, h5, h6, h7]
  simp only [Cond.before, Cond.holds, Cond.value, he]
  cases v <;> simp_all [Value.isRef]
theorem vx_isRefq {C n d : String} {A : Nat → Prop} {s : State} {args : Array Value} (h : va_Zq C n d A s s.heap) : (Cond.isRef (.static C n d)).before args s = true := by
  rcases h with h | ⟨t, h⟩
  · exact vx_isRef h rfl
  · exact vx_isRef h rfl
/-- the same frame, seen from here: as if the method were called anew in this heap -/
theorem vx_rebase {T : State} (X : Stand p l e R s m args below meth c T locs cells slots) {R' : Room} (hf : R'.frames ≤ R.frames) (hl : R'.locals ≤ R.locals) (hc : cells + R'.cells ≤ R.cells) (hs : slots + R'.slots ≤ R.slots) :
    Stand p l e R' ((T.setVm s.vm).setFrames (.invoking m args :: below)) m args below meth c T [] 0 0 := by
  have htop : (T.setVm s.vm).topJava?.isSome := X.here.top
  have hF : ((T.setVm s.vm).setFrames (.invoking m args :: below)).frames = .invoking m args :: below := State.frames_setFrames _ (State.cur_lt_of_top htop)
  obtain ⟨g₀, hg0⟩ := Option.isSome_iff_exists.mp htop
  obtain ⟨r, hr⟩ := State.topJava?_eq_some.mp hg0
  have hl9 : e.platform.stackLimits (T.setVm s.vm).me = e.platform.stackLimits s.me := X.limits
  have hb9 : (T.setVm s.vm).me.stackBytes = s.me.stackBytes := X.bytes
  refine ⟨X.admits, X.cas, X.clock, hF, ?_, X.hears, X.method, X.code, X.here, X.tail, X.warmed, ?_, ?_, ?_⟩
  · have h := X.room
    have hU : ((T.setVm s.vm).setFrames (.invoking m args :: below)).localsInUse = s.localsInUse := by
      rw [State.localsInUse_invoking hF (meth := meth) (c := c) X.method X.code, State.localsInUse_invoking X.frames X.method X.code]
    simp only [State.hasRoom, Bool.and_eq_true, decide_eq_true_eq] at h ⊢
    obtain ⟨⟨⟨⟨h1, h2, h3, h4, h5, h6⟩, h7⟩, h8⟩, h9⟩ := h
    rw [X.frames, List.length_cons] at h2 h3
    have q1 := X.heapSize
    have q2 := X.used
    simp only [hF, hU, List.length_cons, State.stackLimits_setFrames, State.stackBytes_setFrames, hl9, hb9]
    refine ⟨⟨⟨⟨by omega, by omega, by omega, by omega, by omega, h6⟩, ?_⟩, ?_⟩, X.book⟩
    · show T.heap.size + R'.cells ≤ e.platform.maxCells
      omega
    · show T.slotsUsed + R'.slots ≤ e.platform.maxSlots
      omega
  · rw [State.stackLimits_setFrames]; rfl
  · rw [State.stackBytes_setFrames]; rfl
  · refine ⟨?_, Nat.le_refl _, Nat.le_refl _, ?_, ?_, fun a c9 h9 => ⟨c9, h9, rfl, rfl, fun _ _ => rfl⟩⟩
    · obtain ⟨t, ht, -⟩ := State.frames_cons hr
      show T.setVm s.vm = { ((T.setVm s.vm).setFrames (.invoking m args :: below)).setFrames (T.setVm s.vm).frames with heap := T.heap, slotsUsed := T.slotsUsed }
      rw [State.setFrames_setFrames, State.setFrames_self ht]
      rfl
    · show T.slotsUsed = T.slotsUsed + ((T.heap.toList.drop T.heap.size).map (·.slots.size)).sum
      rw [List.drop_eq_nil_of_le (Nat.le_of_eq Array.length_toList)]
      rfl
    · show ((T.heap.toList.drop T.heap.size).map (·.slots.size)).sum ≤ 0
      rw [List.drop_eq_nil_of_le (Nat.le_of_eq Array.length_toList)]
      exact Nat.le_refl _
/-- 'throw new E()': new; dup; invokespecial; athrow -/
theorem vx_throw0 {cc : ByteArray} {pc : Nat} (hexec : p.tables.exec = Jvm.exec) (hb : c.code = cc) (hl : l.stackTraces = false) {own cls : String} {names : List String} {ik ic mc ms : Nat} {A : Nat → Prop}
    (hown : s.vm.findClass own = some m.cls) (hcls : Bundle.fit cls = true) (hnames : ∀ n ∈ names, Bundle.fit n = true)
    (hk : (Cond.classLink own ik cls).before args s = true) (hini : (Cond.initialized cls).before args s = true) (hat : ∀ w ∈ vx_at0 own ic cls names, w.before args s = true)
    (hgood : ∀ w ∈ Cond.classLink own ik cls :: Cond.initialized cls :: vx_at0 own ic cls names, vx_ot w = true)
    (hU : vx_Zq Bundle.tN "UNASSIGNED_STACK" Bundle.steD A s s.heap) (hN : vx_Zq Bundle.tN "SUPPRESSED_SENTINEL" Bundle.listD A s s.heap) (hS : va_S A s.heap H locs) (hsize : ls.size = c.maxLocals)
    (d0 : decode cc pc = .ok (.new ik, 3)) (d3 : decode cc (pc + 3) = .ok (.dup, 1)) (d4 : decode cc (pc + 4) = .ok (.invokespecial ic, 3)) (d7 : decode cc (pc + 7) = .ok (.athrow, 1))
    (hout : ∀ x ∈ c.exceptionTable.toList, covers x (pc + 7) = false)
    (hRframes : names.length + 3 < R.frames) (hRlocals : (rest.map fun v => v.category).sum + (13 * (names.length + 1) + 42) ≤ R.locals) (hRcells : cells + 1 ≤ R.cells) (hRslots : slots + 6 ≤ R.slots) (hlocks : meth.locks = false)
    (hx : ∀ t : State, s.vm.Alike t.vm → H.size ≤ t.heap.size → (∀ q : Nat, q < H.size → t.heap[q]? = H[q]?) → XC cls s t)
    (hf : ∀ z ∈ locs, free z.base) (hc : cells + 1 ≤ mc) (hs : slots + 6 ≤ ms) :
    W p l e R s m args below meth c H locs cells slots (vx_MQ below Qc XC args s mc ms free) (F0 m pc ls rest) := by
  intro T hT X
  have htr : e.platform.stackTraces = false := (show e.platform.stackTraces = l.stackTraces by rw [X.admits.platform]).trans hl
  have Y := vx_rebase X (R' := { frames := R.frames, locals := R.locals, cells := 1, slots := 6 }) (Nat.le_refl _) (Nat.le_refl _) hRcells hRslots
  obtain ⟨s', hA⟩ : ∃ z, z = (T.setVm s.vm).setFrames (.invoking m args :: below) := ⟨_, rfl⟩
  rw [← hA] at Y
  have hvm : s'.vm = s.vm := by rw [hA]; rfl
  have hhp : s'.heap = H := by rw [hA]; exact hT
  have hW0 : s.WarmedH s'.vm := by rw [hvm]; exact State.WarmedH.refl s
  have hat' : ∀ w ∈ vx_at0 own ic cls names, w.before args s' = true := fun w hw => vx_ot_at hW0 hvm.symm (hgood w (List.mem_cons_of_mem _ (List.mem_cons_of_mem _ hw))) (hat w hw)
  have hk' : (Cond.classLink own ik cls).before args s' = true := vx_ot_at hW0 hvm.symm (hgood _ List.mem_cons_self) hk
  have hini' : (Cond.initialized cls).before args s' = true := vx_ot_at hW0 hvm.symm (hgood _ (List.mem_cons_of_mem _ List.mem_cons_self)) hini
  have hU' : vx_Zq Bundle.tN "UNASSIGNED_STACK" Bundle.steD A s' s'.heap := by rw [hhp]; exact vx_Zq.moved hW0.alike (hU.kept hS.2.1)
  have hN' : vx_Zq Bundle.tN "SUPPRESSED_SENTINEL" Bundle.listD A s' s'.heap := by rw [hhp]; exact vx_Zq.moved hW0.alike (hN.kept hS.2.1)
  have h : ∀ w ∈ Bundle.ownAtoms0 own ic cls names, w.before args s' = true := vx_own hat' (vx_isRefq hU'.1) (vx_isRefq hN'.1) hU'.2.word hN'.2.word
  have hown' : s'.vm.findClass own = some m.cls := by rw [hvm]; exact hown
  have hins : (Cond.instantiable cls 6).before args s' = true := h _ (by simp [Bundle.ownAtoms0])
  obtain ⟨vm₁, cX, kX, hfX, hkX, -, -, X₁, st1⟩ := Y.newCold hexec (own := own) (C := cls) (index := ik) (n := 6) hown' hk' hins hini'
    (g := F0 m pc ls rest) rfl (by rw [hb]; exact d0) (Nat.le_refl _) (Nat.le_refl _)
  generalize hT1 : (T.setVm vm₁).pushCell { cls := cX, slots := kX.instanceTypes.map defaultValue, vm := .none } = T1 at X₁ st1
  have hcat : (Value.ref T.heap.size).category = 1 := rfl
  have hcellA : T1.heap[T.heap.size]? = some (freshCell cX kX) := by rw [← hT1]; exact State.heap_pushCell_size _ _
  have d3' : decode c.code (pc + 3) = .ok (.dup, 1) := by rw [hb]; exact d3
  obtain ⟨U, hsteps, hrun, hend, hW, hsame, ce, hce, hO⟩ := X₁.ctorThrow0 hexec htr (own := own) (cls := cls) (names := names) (ic := ic) hown' hcls hnames h (fun x hx => nomatch hx) hfX hkX hcellA (by rw [hhp, hT]; exact Nat.le_refl _)
    (g := { method := m, pc := pc + 4, locals := ls, stack := .ref T.heap.size :: .ref T.heap.size :: rest, locked := none }) rfl hsize rfl rfl (rest := rest) rfl
    (by rw [hb]; exact d4) (by rw [hb]; exact d7) hout hRframes (by simp only [List.map_cons, List.sum_cons, hcat]; omega) hlocks
  obtain ⟨f1, f2⟩ := vx_frame hsame
  rw [hhp] at f1 f2
  have hWs : s.WarmedH U.vm := State.WarmedH.trans hW0 hW
  have hcl : s.vm.findClass cls = some ce.cls := by
    have h9 := hO.cls
    rw [hvm] at h9
    exact h9
  have hall : s.sameButNew ({ U with vm := s.vm } : State) locs mc ms := by
    subst hA
    obtain ⟨e1, e2⟩ := hsame
    rw [State.setFrames_setFrames] at e1
    have h2 : (T.setVm s.vm).sameButNew ({ U with vm := s.vm } : State) [] (0 + 1) (0 + 6) := ⟨e1, e2⟩
    have h3 := X.same.trans h2
    rw [List.append_nil] at h3
    exact h3.mono hc hs
  refine ⟨U, ?_, .threw T.heap.size, hrun, hend, Or.inr ⟨T.heap.size, rfl, cls, ce, locs, hx U hWs.alike f1 (fun q hq => f2 q hq (fun z hz => nomatch hz)), hce, hO.vm, hcl, hWs, hall, hf⟩⟩
  refine st1 _ ?_
  show Steps p.tables e below (T1.setTop { method := m, pc := pc + 3, locals := ls, stack := .ref T.heap.size :: rest, locked := none }) _
  jvm_step X₁.here [X₁.here.top, hexec, d3', Value.category]
  exact hsteps
/-- 'throw new E("text")': new; dup; ldc; invokespecial; athrow -/
theorem vx_throwS {cc : ByteArray} {pc : Nat} (hexec : p.tables.exec = Jvm.exec) (hb : c.code = cc) (hl : l.stackTraces = false) {own cls text : String} {names : List String} {ik is ic mc ms sa : Nat} {A : Nat → Prop}
    (hown : s.vm.findClass own = some m.cls) (hcls : Bundle.fit cls = true) (hnames : ∀ n ∈ names, Bundle.fit n = true)
    (hk : (Cond.classLink own ik cls).before args s = true) (hini : (Cond.initialized cls).before args s = true) (hstr : vk_R own is text sa s) (hat : ∀ w ∈ vx_atS own ic cls names, w.before args s = true)
    (hgood : ∀ w ∈ Cond.classLink own ik cls :: Cond.initialized cls :: vx_atS own ic cls names, vx_ot w = true)
    (hU : vx_Zq Bundle.tN "UNASSIGNED_STACK" Bundle.steD A s s.heap) (hN : vx_Zq Bundle.tN "SUPPRESSED_SENTINEL" Bundle.listD A s s.heap) (hS : va_S A s.heap H locs) (hsize : ls.size = c.maxLocals)
    (d0 : decode cc pc = .ok (.new ik, 3)) (d3 : decode cc (pc + 3) = .ok (.dup, 1)) (d4 : decode cc (pc + 4) = .ok (.ldc is, 2)) (d6 : decode cc (pc + 6) = .ok (.invokespecial ic, 3)) (d9 : decode cc (pc + 9) = .ok (.athrow, 1))
    (hout : ∀ x ∈ c.exceptionTable.toList, covers x (pc + 9) = false)
    (hRframes : names.length + 3 < R.frames) (hRlocals : (rest.map fun v => v.category).sum + (13 * (names.length + 1) + 43) ≤ R.locals) (hRcells : cells + 1 ≤ R.cells) (hRslots : slots + 6 ≤ R.slots) (hlocks : meth.locks = false)
    (hx : ∀ t : State, s.vm.Alike t.vm → H.size ≤ t.heap.size → (∀ q : Nat, q < H.size → t.heap[q]? = H[q]?) → XC cls s t)
    (hf : ∀ z ∈ locs, free z.base) (hc : cells + 1 ≤ mc) (hs : slots + 6 ≤ ms) :
    W p l e R s m args below meth c H locs cells slots (vx_MQ below Qc XC args s mc ms free) (F0 m pc ls rest) := by
  intro T hT X
  have htr : e.platform.stackTraces = false := (show e.platform.stackTraces = l.stackTraces by rw [X.admits.platform]).trans hl
  have Y := vx_rebase X (R' := { frames := R.frames, locals := R.locals, cells := 1, slots := 6 }) (Nat.le_refl _) (Nat.le_refl _) hRcells hRslots
  obtain ⟨s', hA⟩ : ∃ z, z = (T.setVm s.vm).setFrames (.invoking m args :: below) := ⟨_, rfl⟩
  rw [← hA] at Y
  have hvm : s'.vm = s.vm := by rw [hA]; rfl
  have hhp : s'.heap = H := by rw [hA]; exact hT
  have hW0 : s.WarmedH s'.vm := by rw [hvm]; exact State.WarmedH.refl s
  have hat' : ∀ w ∈ vx_atS own ic cls names, w.before args s' = true := fun w hw => vx_ot_at hW0 hvm.symm (hgood w (List.mem_cons_of_mem _ (List.mem_cons_of_mem _ hw))) (hat w hw)
  have hk' : (Cond.classLink own ik cls).before args s' = true := vx_ot_at hW0 hvm.symm (hgood _ List.mem_cons_self) hk
  have hini' : (Cond.initialized cls).before args s' = true := vx_ot_at hW0 hvm.symm (hgood _ (List.mem_cons_of_mem _ List.mem_cons_self)) hini
  have hU' : vx_Zq Bundle.tN "UNASSIGNED_STACK" Bundle.steD A s' s'.heap := by rw [hhp]; exact vx_Zq.moved hW0.alike (hU.kept hS.2.1)
  have hN' : vx_Zq Bundle.tN "SUPPRESSED_SENTINEL" Bundle.listD A s' s'.heap := by rw [hhp]; exact vx_Zq.moved hW0.alike (hN.kept hS.2.1)
  have h : ∀ w ∈ Bundle.ownAtoms own ic cls names, w.before args s' = true := vx_own hat' (vx_isRefq hU'.1) (vx_isRefq hN'.1) hU'.2.word hN'.2.word
  have hown' : s'.vm.findClass own = some m.cls := by rw [hvm]; exact hown
  have hins : (Cond.instantiable cls 6).before args s' = true := h _ (by simp [Bundle.ownAtoms])
  obtain ⟨vm₁, cX, kX, hfX, hkX, -, -, X₁, st1⟩ := Y.newCold hexec (own := own) (C := cls) (index := ik) (n := 6) hown' hk' hins hini'
    (g := F0 m pc ls rest) rfl (by rw [hb]; exact d0) (Nat.le_refl _) (Nat.le_refl _)
  generalize hT1 : (T.setVm vm₁).pushCell { cls := cX, slots := kX.instanceTypes.map defaultValue, vm := .none } = T1 at X₁ st1
  have hcat : (Value.ref T.heap.size).category = 1 := rfl
  have hcellA : T1.heap[T.heap.size]? = some (freshCell cX kX) := by rw [← hT1]; exact State.heap_pushCell_size _ _
  have d3' : decode c.code (pc + 3) = .ok (.dup, 1) := by rw [hb]; exact d3
  have d4' : decode c.code (pc + 4) = .ok (.ldc is, 2) := by rw [hb]; exact d4
  have hstr' : vk_R own is text sa s' := vk_R.warm hW0 hstr
  obtain ⟨U, hsteps, hrun, hend, hW, hsame, ce, hce, hO⟩ := X₁.ctorThrowS hexec htr (own := own) (cls := cls) (names := names) (ic := ic) hown' hcls hnames h (fun x hx => nomatch hx) hfX hkX hcellA (by rw [hhp, hT]; exact Nat.le_refl _) (msg := .ref sa) rfl
    (g := { method := m, pc := pc + 6, locals := ls, stack := .ref sa :: .ref T.heap.size :: .ref T.heap.size :: rest, locked := none }) rfl hsize rfl rfl (rest := rest) rfl
    (by rw [hb]; exact d6) (by rw [hb]; exact d9) hout hRframes (by simp only [List.map_cons, List.sum_cons, hcat]; omega) hlocks
  obtain ⟨f1, f2⟩ := vx_frame hsame
  rw [hhp] at f1 f2
  have hWs : s.WarmedH U.vm := State.WarmedH.trans hW0 hW
  have hcl : s.vm.findClass cls = some ce.cls := by
    have h9 := hO.cls
    rw [hvm] at h9
    exact h9
  have hall : s.sameButNew ({ U with vm := s.vm } : State) locs mc ms := by
    subst hA
    obtain ⟨e1, e2⟩ := hsame
    rw [State.setFrames_setFrames] at e1
    have h2 : (T.setVm s.vm).sameButNew ({ U with vm := s.vm } : State) [] (0 + 1) (0 + 6) := ⟨e1, e2⟩
    have h3 := X.same.trans h2
    rw [List.append_nil] at h3
    exact h3.mono hc hs
  refine ⟨U, ?_, .threw T.heap.size, hrun, hend, Or.inr ⟨T.heap.size, rfl, cls, ce, locs, hx U hWs.alike f1 (fun q hq => f2 q hq (fun z hz => nomatch hz)), hce, hO.vm, hcl, hWs, hall, hf⟩⟩
  refine st1 _ ?_
  show Steps p.tables e below (T1.setTop { method := m, pc := pc + 3, locals := ls, stack := .ref T.heap.size :: rest, locked := none }) _
  jvm_step X₁.here [X₁.here.top, hexec, d3', Value.category]
  exact X₁.ldcString hexec (own := own) (text := text) (index := is) (a := sa) hown' hstr'.1 hstr'.2
    (g := { method := m, pc := pc + 4, locals := ls, stack := .ref T.heap.size :: .ref T.heap.size :: rest, locked := none }) rfl d4' _ hsteps
/-- 'throw new E("text")', the text by a wide index -/
theorem vx_throwSW {cc : ByteArray} {pc : Nat} (hexec : p.tables.exec = Jvm.exec) (hb : c.code = cc) (hl : l.stackTraces = false) {own cls text : String} {names : List String} {ik is ic mc ms sa : Nat} {A : Nat → Prop}
    (hown : s.vm.findClass own = some m.cls) (hcls : Bundle.fit cls = true) (hnames : ∀ n ∈ names, Bundle.fit n = true)
    (hk : (Cond.classLink own ik cls).before args s = true) (hini : (Cond.initialized cls).before args s = true) (hstr : vk_R own is text sa s) (hat : ∀ w ∈ vx_atS own ic cls names, w.before args s = true)
    (hgood : ∀ w ∈ Cond.classLink own ik cls :: Cond.initialized cls :: vx_atS own ic cls names, vx_ot w = true)
    (hU : vx_Zq Bundle.tN "UNASSIGNED_STACK" Bundle.steD A s s.heap) (hN : vx_Zq Bundle.tN "SUPPRESSED_SENTINEL" Bundle.listD A s s.heap) (hS : va_S A s.heap H locs) (hsize : ls.size = c.maxLocals)
    (d0 : decode cc pc = .ok (.new ik, 3)) (d3 : decode cc (pc + 3) = .ok (.dup, 1)) (d4 : decode cc (pc + 4) = .ok (.ldc_w is, 3)) (d7 : decode cc (pc + 7) = .ok (.invokespecial ic, 3)) (d10 : decode cc (pc + 10) = .ok (.athrow, 1))
    (hout : ∀ x ∈ c.exceptionTable.toList, covers x (pc + 10) = false)
    (hRframes : names.length + 3 < R.frames) (hRlocals : (rest.map fun v => v.category).sum + (13 * (names.length + 1) + 43) ≤ R.locals) (hRcells : cells + 1 ≤ R.cells) (hRslots : slots + 6 ≤ R.slots) (hlocks : meth.locks = false)
    (hx : ∀ t : State, s.vm.Alike t.vm → H.size ≤ t.heap.size → (∀ q : Nat, q < H.size → t.heap[q]? = H[q]?) → XC cls s t)
    (hf : ∀ z ∈ locs, free z.base) (hc : cells + 1 ≤ mc) (hs : slots + 6 ≤ ms) :
    W p l e R s m args below meth c H locs cells slots (vx_MQ below Qc XC args s mc ms free) (F0 m pc ls rest) := by
  intro T hT X
  have htr : e.platform.stackTraces = false := (show e.platform.stackTraces = l.stackTraces by rw [X.admits.platform]).trans hl
  have Y := vx_rebase X (R' := { frames := R.frames, locals := R.locals, cells := 1, slots := 6 }) (Nat.le_refl _) (Nat.le_refl _) hRcells hRslots
  obtain ⟨s', hA⟩ : ∃ z, z = (T.setVm s.vm).setFrames (.invoking m args :: below) := ⟨_, rfl⟩
  rw [← hA] at Y
  have hvm : s'.vm = s.vm := by rw [hA]; rfl
  have hhp : s'.heap = H := by rw [hA]; exact hT
  have hW0 : s.WarmedH s'.vm := by rw [hvm]; exact State.WarmedH.refl s
  have hat' : ∀ w ∈ vx_atS own ic cls names, w.before args s' = true := fun w hw => vx_ot_at hW0 hvm.symm (hgood w (List.mem_cons_of_mem _ (List.mem_cons_of_mem _ hw))) (hat w hw)
  have hk' : (Cond.classLink own ik cls).before args s' = true := vx_ot_at hW0 hvm.symm (hgood _ List.mem_cons_self) hk
  have hini' : (Cond.initialized cls).before args s' = true := vx_ot_at hW0 hvm.symm (hgood _ (List.mem_cons_of_mem _ List.mem_cons_self)) hini
  have hU' : vx_Zq Bundle.tN "UNASSIGNED_STACK" Bundle.steD A s' s'.heap := by rw [hhp]; exact vx_Zq.moved hW0.alike (hU.kept hS.2.1)
  have hN' : vx_Zq Bundle.tN "SUPPRESSED_SENTINEL" Bundle.listD A s' s'.heap := by rw [hhp]; exact vx_Zq.moved hW0.alike (hN.kept hS.2.1)
  have h : ∀ w ∈ Bundle.ownAtoms own ic cls names, w.before args s' = true := vx_own hat' (vx_isRefq hU'.1) (vx_isRefq hN'.1) hU'.2.word hN'.2.word
  have hown' : s'.vm.findClass own = some m.cls := by rw [hvm]; exact hown
  have hins : (Cond.instantiable cls 6).before args s' = true := h _ (by simp [Bundle.ownAtoms])
  obtain ⟨vm₁, cX, kX, hfX, hkX, -, -, X₁, st1⟩ := Y.newCold hexec (own := own) (C := cls) (index := ik) (n := 6) hown' hk' hins hini'
    (g := F0 m pc ls rest) rfl (by rw [hb]; exact d0) (Nat.le_refl _) (Nat.le_refl _)
  generalize hT1 : (T.setVm vm₁).pushCell { cls := cX, slots := kX.instanceTypes.map defaultValue, vm := .none } = T1 at X₁ st1
  have hcat : (Value.ref T.heap.size).category = 1 := rfl
  have hcellA : T1.heap[T.heap.size]? = some (freshCell cX kX) := by rw [← hT1]; exact State.heap_pushCell_size _ _
  have d3' : decode c.code (pc + 3) = .ok (.dup, 1) := by rw [hb]; exact d3
  have d4' : decode c.code (pc + 4) = .ok (.ldc_w is, 3) := by rw [hb]; exact d4
  have hstr' : vk_R own is text sa s' := vk_R.warm hW0 hstr
  obtain ⟨U, hsteps, hrun, hend, hW, hsame, ce, hce, hO⟩ := X₁.ctorThrowS hexec htr (own := own) (cls := cls) (names := names) (ic := ic) hown' hcls hnames h (fun x hx => nomatch hx) hfX hkX hcellA (by rw [hhp, hT]; exact Nat.le_refl _) (msg := .ref sa) rfl
    (g := { method := m, pc := pc + 7, locals := ls, stack := .ref sa :: .ref T.heap.size :: .ref T.heap.size :: rest, locked := none }) rfl hsize rfl rfl (rest := rest) rfl
    (by rw [hb]; exact d7) (by rw [hb]; exact d10) hout hRframes (by simp only [List.map_cons, List.sum_cons, hcat]; omega) hlocks
  obtain ⟨f1, f2⟩ := vx_frame hsame
  rw [hhp] at f1 f2
  have hWs : s.WarmedH U.vm := State.WarmedH.trans hW0 hW
  have hcl : s.vm.findClass cls = some ce.cls := by
    have h9 := hO.cls
    rw [hvm] at h9
    exact h9
  have hall : s.sameButNew ({ U with vm := s.vm } : State) locs mc ms := by
    subst hA
    obtain ⟨e1, e2⟩ := hsame
    rw [State.setFrames_setFrames] at e1
    have h2 : (T.setVm s.vm).sameButNew ({ U with vm := s.vm } : State) [] (0 + 1) (0 + 6) := ⟨e1, e2⟩
    have h3 := X.same.trans h2
    rw [List.append_nil] at h3
    exact h3.mono hc hs
  refine ⟨U, ?_, .threw T.heap.size, hrun, hend, Or.inr ⟨T.heap.size, rfl, cls, ce, locs, hx U hWs.alike f1 (fun q hq => f2 q hq (fun z hz => nomatch hz)), hce, hO.vm, hcl, hWs, hall, hf⟩⟩
  refine st1 _ ?_
  show Steps p.tables e below (T1.setTop { method := m, pc := pc + 3, locals := ls, stack := .ref T.heap.size :: rest, locked := none }) _
  jvm_step X₁.here [X₁.here.top, hexec, d3', Value.category]
  exact X₁.ldcStringW hexec (own := own) (text := text) (index := is) (a := sa) hown' hstr'.1 hstr'.2
    (g := { method := m, pc := pc + 4, locals := ls, stack := .ref T.heap.size :: .ref T.heap.size :: rest, locked := none }) rfl d4' _ hsteps
end Ends
section Bodies
variable {l : Launch}
theorem vx_ofW {y : MethodName} {ws ws' : List Cond} {rm : Room} {Pc : Array Value → State → Prop} {Qc : Array Value → State → Outcome → State → Prop} {XC : String → State → State → Prop} {mc ms : Nat} {free : Addr → Prop} {cc : ByteArray} {maxL : Nat} {ret : Option FieldType}
    (hy : plainName y.cls = true) (hw : ws = Cond.code y cc maxL ret :: ws')
    (body : ∀ p e s m args below meth c s₁, BodyLoose p l y (headSpec ws rm) cc maxL ret e s m args below meth c s₁ → c.maxLocals = maxL → (∀ x ∈ c.exceptionTable.toList, False) → Pc args s →
      W p l e (headSpec ws rm).room s m args below meth c s.heap [] 0 0 (vx_MQ below Qc XC args s mc ms free) (entryFrame m args maxL)) : vx_Met l y ws rm Pc Qc XC mc ms free := by
  refine MetFree.of_bodyS (code := cc) (maxLocals := maxL) (ret := ret) hy ?_ ?_
  · intro args s m h hn
    obtain ⟨meth, c, h1, h2, h3, h4, h5, h6, -, -⟩ := Cond.code_spec hn (atoms_spec (ws := ws) h _ (by rw [hw]; exact List.mem_cons_self))
    exact ⟨meth, c, h1, h2, h3, h4, h5, h6⟩
  · intro p e s m args below meth c s₁ B hml hP _
    have hh0 : s₁.heap = s.heap := by rw [B.state]; rfl
    have ht : ∀ x ∈ c.exceptionTable.toList, False := by
      obtain ⟨meth9, c9, h1, h2, -, -, -, -, h7, -⟩ := Cond.code_spec B.named (atoms_spec (ws := ws) B.pre _ (by rw [hw]; exact List.mem_cons_self))
      cases Option.some.inj (h1.symm.trans B.method)
      cases Option.some.inj (h2.symm.trans (Stand.of_body B).code)
      intro x hx
      rw [Array.isEmpty_iff.mp h7] at hx
      cases hx
    obtain ⟨t, a1, o, b1, b2, b3⟩ := body p e s m args below meth c s₁ B hml ht hP s₁ hh0 (Stand.of_body B)
    exact ⟨t, o, a1, b1, b2, b3⟩
/-- the table of a body with handlers -/
theorem vx_table {p : Program} {x y : MethodName} {S : Spec} {cc bytes : ByteArray} {maxL maxL' : Nat} {ret ret' : Option FieldType} {e : Env} {s s₁ : State} {m : MethodId} {args : Array Value} {below : List Frame} {meth : Method} {c : Code} {hh : List (Nat × Nat × Nat × Nat)}
    (B : BodyLoose p l y S cc maxL ret e s m args below meth c s₁) (h : (Cond.codeWith y bytes maxL' ret' hh).before args s = true) : c.exceptionTable.toList = tableOf hh := by
  obtain ⟨m9, meth9, c9, hn9, h1, h2, -, -, h6, -⟩ := Cond.codeWith_spec h
  cases Option.some.inj (hn9.symm.trans B.named)
  cases Option.some.inj (h1.symm.trans B.method)
  cases Option.some.inj (h2.symm.trans (Stand.of_body B).code)
  rw [← h6, table_eq]
end Bodies
end VXA
/-! ===== END ===== -/
/-! ===== BEGIN a static call of a method with an exception table ===== -/
section VXS
variable {p : Program} {l : Launch} {e : Env} {R : Room} {s : State} {m : MethodId} {args : Array Value} {below : List Frame} {meth : Method} {c : Code} {T : State} {H : Heap} {locs : List Loc} {cells slots : Nat}
abbrev vx_CSW (R : Room) (s : State) (args : Array Value) (own : String) (index : Nat) (y : MethodName) (bytes : ByteArray) (maxL : Nat) (ret : Option FieldType) (hh : List (Nat × Nat × Nat × Nat)) (ws : List Cond) (rm : Room) (mc ms n : Nat) : Prop :=
  (rm.cells = mc ∧ rm.slots = ms ∧ rm.frames + 1 ≤ R.frames ∧ 8 + (maxL + 11) + rm.locals ≤ R.locals ∧ (∀ w ∈ ws, ∀ (a' : Array Value) (U : State), s.WarmedH U.vm → w.before a' U = true) ∧ Cond.codeWith y bytes maxL ret hh ∈ ws) ∧
  (Cond.codeWith y bytes maxL ret hh).before args s = true ∧ (Cond.initialized y.cls).before args s = true ∧ (y.cls ≠ "java/lang/invoke/MethodHandle" ∧ y.cls ≠ "java/lang/invoke/VarHandle") ∧
  (∀ sig, parseMethodDescriptor y.desc = some sig → n = sig.parameters.length) ∧ (Cond.methodLink own index y).before args s = true ∧ (Cond.static y).before args s = true
theorem vx_cwSW {own : String} {index maxL mc ms : Nat} {y : MethodName} {bytes : ByteArray} {ret : Option FieldType} {hh : List (Nat × Nat × Nat × Nat)} {Ts ws ws' : List Cond} {rm : Room} (n : Nat) (ht : ∀ w ∈ Ts, w.before args s = true) (hT : GoodIn Ts (va_wsS own index y ws)) (hw : ws = Cond.codeWith y bytes maxL ret hh :: ws') (hrc : rm.cells = mc) (hrs : rm.slots = ms)
    (hd : y.cls ≠ "java/lang/invoke/MethodHandle" ∧ y.cls ≠ "java/lang/invoke/VarHandle" ∧ (parseMethodDescriptor y.desc).map (fun d => d.parameters.length) = some n) (hR : rm.frames + 1 ≤ R.frames ∧ 8 + (maxL + 11) + rm.locals ≤ R.locals) :
    vx_CSW R s args own index y bytes maxL ret hh ws rm mc ms n := by
  have ok : ∀ w ∈ va_wsS own index y ws, w.before args s = true := fun w h => ht w (hT w h).1
  have hG : GoodIn Ts ws := fun w h => hT w (by unfold va_wsS; exact List.mem_append_right _ h)
  have hc : Cond.codeWith y bytes maxL ret hh ∈ ws := by rw [hw]; exact List.mem_cons_self
  refine ⟨⟨hrc, hrs, hR.1, hR.2, pay_in ht hG, hc⟩, ht _ (hG _ hc).1, ok _ (by simp [va_wsS]), ⟨hd.1, hd.2.1⟩, fun sig h => ?_, ok _ (by simp [va_wsS]), ok _ (by simp [va_wsS])⟩
  have h2 := hd.2.2
  rw [h] at h2
  exact (Option.some.inj h2).symm
theorem vx_callSW (X : Stand p l e R s m args below meth c T locs cells slots) (hexec : p.tables.exec = Jvm.exec) {own : String} {index : Nat} {y : MethodName} {bytes : ByteArray} {maxL : Nat} {ret : Option FieldType} {hh : List (Nat × Nat × Nat × Nat)}
    (hown : s.vm.findClass own = some m.cls) (hlink : (Cond.methodLink own index y).before args s = true) (hstat : (Cond.static y).before args s = true) (hinit : (Cond.initialized y.cls).before args s = true)
    (hcode : (Cond.codeWith y bytes maxL ret hh).before args s = true) (hy : y.cls ≠ "java/lang/invoke/MethodHandle" ∧ y.cls ≠ "java/lang/invoke/VarHandle")
    {W9 : Nat} {Pre : Pt → Array Value → Prop} {Post : Pt → Array Value → Option Value → Pt → Prop} (hK : Back l R p e below s args y 3 W9 Pre Post)
    {g : JFrame} (hg : g.method = m) (hsize : g.locals.size = c.maxLocals) {argsL rest : List Value} (hlen : ∀ sig, parseMethodDescriptor y.desc = some sig → argsL.length = sig.parameters.length)
    (hstack : g.stack = argsL.reverse ++ rest) (hW : 2 * g.monitorRoom + (rest.map fun v => v.category).sum ≤ W9) (hdg : decode c.code g.pc = .ok (.invokestatic index, 3))
    (hpre : ∀ vm₁, s.WarmedH vm₁ → Pre ⟨T.setVm vm₁, locs, cells, slots⟩ argsL.toArray) :
    ∃ (v : Option Value) (vm₁ : Vm) (B : Pt), s.WarmedH vm₁ ∧ Stand p l e R s m args below meth c B.U B.locs B.cells B.slots ∧ Post ⟨T.setVm vm₁, locs, cells, slots⟩ argsL.toArray v B ∧
      ∀ target, Steps p.tables e below (B.U.setTop { g with pc := g.pc + 3, stack := v.toList ++ rest }) target → Steps p.tables e below (T.setTop g) target := by
  obtain ⟨mk, methM, cM, hnamed, hmethM, -, -, -, -, -, -, hsigM⟩ := Cond.codeWith_spec hcode
  have hstatic : methM.isStatic = true := Cond.static_spec hnamed hmethM hstat
  obtain ⟨kP, hkP, -⟩ := className_of_methodNamed hnamed
  have hinitP : kP.init = .initialized := Cond.initialized_spec (findClass_of_methodNamed hnamed) hkP hinit
  obtain ⟨vm₁, X₁, hstep₁⟩ := X.invokestatic hexec hown hlink hnamed hmethM hstatic hkP hinitP hy (g := g) hg (argsL := argsL) (rest := rest) (hlen _ hsigM) hstack hdg
  obtain ⟨v, B, X', hpost, hsteps⟩ := hK m meth c ⟨T.setVm vm₁, locs, cells, slots⟩ { g with stack := rest } (.invokestatic index) mk argsL.toArray X₁ hg hsize hdg hW (X₁.named hnamed) (hpre vm₁ X₁.warmed)
  exact ⟨v, vm₁, B, X₁.warmed, X', hpost, fun target h => hstep₁ _ fun acts => by rw [doInvoke_state]; exact hsteps.trans h⟩
theorem vx_runSW {y : MethodName} {bytes cc : ByteArray} {maxL nL mc ms n index : Nat} {ret : Option FieldType} {hh : List (Nat × Nat × Nat × Nat)} {ws : List Cond} {rm : Room} {Pc : Array Value → State → Prop} {Qc : Array Value → State → Outcome → State → Prop} {free : Addr → Prop} {Ts : List Cond} {own : String} {As rest : List Value} {g : JFrame}
    (S : CallFix p m c cc nL s args Ts own) (hM : Met l y ws rm Pc Qc mc ms free) (cw : vx_CSW R s args own index y bytes maxL ret hh ws rm mc ms n) (hp : PreS s H Pc As)
    (hg : g.method = m) (hn : As.length = n) (hsize : g.locals.size = nL) (hstack : g.stack = As.reverse ++ rest) (hW : 2 * g.monitorRoom + (rest.map fun v => v.category).sum ≤ 8) (hdg : decode cc g.pc = .ok (.invokestatic index, 3)) (hf : cells + mc ≤ R.cells ∧ slots + ms ≤ R.slots) :
    va_Run p l e R s m args below meth c H locs cells slots mc ms g rest (Qc As.toArray) (free) := by
  obtain ⟨⟨hrc, hrs, hfr, hlo, hws, hcw⟩, hcode, hini, hy, hlen, hl, hstt⟩ := cw
  have hK : Back l R p e below s args y 3 8 (PreOf R mc ms Pc) (PostOf Qc mc ms free) := va_backW (hh := hh) (bytes := bytes) (maxL := maxL) (ret := ret) hM hp.1 hrc hrs hfr hlo hws hcw (fun a' U hW => word_at hW (Or.inl (by first | rfl | simp [Cond.onTables, Cond.keeps, Cond.steady])) hini)
  obtain ⟨hx, hb, hml, ho, -⟩ := S
  intro T hT X
  obtain ⟨v, vm₁, ⟨U', l2, c2, s2⟩, hW₁, X', ⟨g', mk, t, L, e1, e2, hq, h1, hL, h2, h3⟩, st⟩ := vx_callSW X hx (hh := hh) (bytes := bytes) (maxL := maxL) (ret := ret) ho hl hstt hini hcode hy hK hg (hsize.trans hml.symm) (argsL := As) (rest := rest) (fun sig h => hn.trans (hlen sig h)) hstack hW (by rw [hb]; exact hdg)
    (fun vm₁ hW₁ => ⟨hf.1, hf.2, hp.2 (T.setVm vm₁) hT hW₁⟩)
  dsimp only [Pt.U, Pt.locs, Pt.cells, Pt.slots] at X' e1 e2 h1 h2 h3 st
  subst h1; subst h2; subst h3
  exact ⟨v, (T.setVm vm₁).calling g' mk As.toArray, t, U', L, hT, X', hL, e1, e2, hq, st⟩
/-- not caught here, past rows that name other classes: it goes on to the caller -/
theorem vx_outP {p : Program} {l : Launch} {e : Env} {R : Room} {s : State} {m : MethodId} {args : Array Value} {below : List Frame} {meth : Method} {c : Code} {H : Heap} {locs : List Loc} {cells slots : Nat} {free : Addr → Prop} {ls : Array Slot} {rest : List Value} {Qc : Array Value → State → Outcome → State → Prop} {XC : String → State → State → Prop}
    {pc : Nat} {own E : String} {ce : Cell} {q : Addr} {mc ms : Nat} (hown : s.vm.findClass own = some m.cls) (hlocks : meth.locks = false)
    (hpass : ∀ z ∈ c.exceptionTable.toList, covers z pc = false ∨ (z.catchType ≠ 0 ∧ ∃ nm : String, (Cond.classLink own z.catchType nm).before args s = true ∧ va_Nc E nm s)) (hcell : H[q]? = some ce) (hv : ce.vm = .none) (hcl : s.vm.findClass E = some ce.cls)
    (hx : ∀ t : State, t.heap = H → s.vm.Alike t.vm → XC E s t) (hf : ∀ z ∈ locs, free z.base) (hc : cells ≤ mc) (hs : slots ≤ ms) :
    vx_W p l e R s m args below meth c H locs cells slots (vx_MQ below Qc XC args s mc ms free) (F0 m pc ls rest) q := by
  intro T hT X
  have hpl : e.platform.magicAccessors = ({} : Platform).magicAccessors := by rw [X.admits.platform]
  obtain ⟨vm', hW', X', st⟩ := X.outThrough hlocks q (g := F0 m pc ls rest) rfl rfl rfl (cell := ce) (by rw [hT]; exact hcell) (by rw [hv]; rfl)
    (by obtain ⟨k9, h9, -⟩ := Vm.findClass_spec hcl; exact ⟨k9, h9⟩) (fun z hz => by
      rcases hpass z hz with h | ⟨hz0, nm, hl1, hn1⟩
      · exact Or.inl h
      · obtain ⟨c6, hc6, hcl6⟩ := Cond.classLink_spec hown hl1 e.platform hpl
        obtain ⟨a8, b8, h1, h2, h3⟩ := hn1
        cases Option.some.inj (h1.symm.trans hcl)
        cases Option.some.inj (h2.symm.trans hc6)
        exact Or.inr ⟨hz0, _, hcl6, h3⟩)
  obtain ⟨g₀, hfr⟩ := X'.frames_eq
  have hcell9 : ((T.setVm vm').setFrames (.throwing q :: below)).heap[q]? = some ce := by
    show T.heap[q]? = some ce
    rw [hT]; exact hcell
  have hend : Ended ((T.setVm vm').setFrames (.throwing q :: below)) below (.threw q) := State.frames_setFrames _ (State.cur_lt_of_frames hfr)
  refine ⟨(T.setVm vm').setFrames (.throwing q :: below), ?_, .threw q, X'.here.running, hend, Or.inr ⟨q, rfl, E, ce, locs, hx _ hT (X'.ends _).1.alike, hcell9, hv, hcl, (X'.ends _).1, (X'.ends _).2.mono hc hs, hf⟩⟩
  rw [X.pushThrowing_eq]
  exact st
/-- a thing of a world lies in the heap -/
theorem vx_lt {D : va_G} {cl : List vw_C} {ws : va_W} {H1 : Heap} (h : va_P D cl ws H1) {k : Nat} {q : Nat × va_E} (hk : ws[k]? = some q) : q.1 < H1.size := (h k q hk).lt
end VXS
/-! ===== END ===== -/
/-! ===== BEGIN methods with a table of their own: called by a name, returning or throwing ===== -/
section VXH
/-! vx_backW, vx_callVX, vx_callSX, vx_callVW, vx_runVW, vx_runVX, vx_runSX, vx_ofWH follow the same proofs as their sisters above (Free/Laws.lean, Shelf42/LK1.lean); vx_outP calls Shelf42/NT130.lean (outThrough). -/
section
variable {l : Launch} {R : Room} {p : Program} {e : Env} {below : List Frame} {s : State} {sargs : Array Value} {y : MethodName} {len W9 : Nat}
theorem vx_backW {ws : List Cond} {rm : Room} {Pc : Array Value → State → Prop} {Qc : Array Value → State → Outcome → State → Prop} {XC : String → State → State → Prop} {mc ms : Nat} {free : Addr → Prop} {bytes : ByteArray} {maxL : Nat} {ret : Option FieldType} {hh : List (Nat × Nat × Nat × Nat)}
    (hM : vx_Met l y ws rm Pc Qc XC mc ms free) (hblind : FrameBlind Pc) (hrc : rm.cells = mc) (hrs : rm.slots = ms)
    (hframes : rm.frames + 1 ≤ R.frames) (hlocals : W9 + (maxL + 11) + rm.locals ≤ R.locals)
    (hws : ∀ w ∈ ws, ∀ a' U, s.WarmedH U.vm → w.before a' U = true) (hcode : Cond.codeWith y bytes maxL ret hh ∈ ws) (hinit : ∀ a' U, s.WarmedH U.vm → (Cond.initialized y.cls).before a' U = true) :
    vx_Back l R p e below s sargs y len W9 (PreOf R mc ms Pc) (PostOf Qc mc ms free) (vx_Post XC mc ms free) := by
  intro m meth c A g ig mk a X hg hsize hdg hW hn hp
  have h1 : (headSpec ws rm).pre.before a A.U = true := atoms_intro fun w hw => hws w hw _ _ X.warmed
  have h2 : (Cond.codeWith y bytes maxL ret hh).before a A.U = true := hws _ hcode _ _ X.warmed
  have h3 : (Cond.initialized y.cls).before a A.U = true := hinit _ _ X.warmed
  have h4 : A.cells + (headSpec ws rm).room.cells ≤ R.cells := by rw [show (headSpec ws rm).room.cells = mc from hrc]; exact hp.1
  have h5 : A.slots + (headSpec ws rm).room.slots ≤ R.slots := by rw [show (headSpec ws rm).room.slots = ms from hrs]; exact hp.2.1
  have hPc : Pc a (A.U.calling g mk a) := hblind _ _ _ _ hp.2.2
  obtain ⟨U, Ls, c0, s0⟩ := A
  dsimp only [Pt.U, Pt.locs, Pt.cells, Pt.slots] at h1 h2 h3 h4 h5 X hn hPc ⊢
  obtain ⟨m9, methY, cY, hn9, hmY, hcY, -, hlY, -⟩ := Cond.codeWith_spec h2
  cases Option.some.inj (hn9.symm.trans hn)
  obtain ⟨kY, hkY, -⟩ := className_of_methodNamed hn
  have hinitY : kY.init = .initialized := Cond.initialized_spec (findClass_of_methodNamed hn) hkY h3
  have h : At U g.method c below := by rw [hg]; exact X.here
  have hlocals9 : W9 + (maxL + 11) + (headSpec ws rm).room.locals ≤ R.locals := hlocals
  have happ : (headSpec ws rm).appliesLoose y e.platform (U.calling g mk a) = true :=
    Spec.appliesLoose_calling (g := g) h hdg hn hkY hinitY
      (X.room_calling (g := g) (R' := (headSpec ws rm).room) hsize hmY hcY hframes (by rw [hlY]; omega) h4 h5) h1
  obtain ⟨mid, hmid⟩ := h.above
  have hfr : (U.setTop g).frames = (.java g :: mid) ++ below := by rw [State.frames_setTop' g h.top, hmid]; rfl
  obtain ⟨o, s₂, hsteps, -, hend, hq⟩ := Steps.callFree hM p X.admits X.cas X.clock (acts := []) hfr happ hPc trivial
  have hq' : vx_Q Qc XC mc ms free a (U.calling g mk a) o s₂ := hq
  rw [State.frames_setTop' g h.top] at hend
  obtain ⟨g₀, hg0⟩ := Option.isSome_iff_exists.mp h.top
  obtain ⟨r, hr⟩ := State.topJava?_eq_some.mp hg0
  have hr' : (({ U with heap := s₂.heap, slotsUsed := s₂.slotsUsed } : State).setVm s₂.vm).frames = .java g₀ :: r := hr
  rcases hq' with ⟨hqc, L, hfe, hL⟩ | ⟨q, rfl, E, ce, L, hx, hce, hcv, hcl, hW₂, hsm, hL⟩
  · obtain ⟨⟨v, rfl⟩, hW₂, e2, q2, q3, q4, q5, q6⟩ := id hfe
    have e3 : s₂ = ({ (U.calling g mk a).setFrames s₂.frames with heap := s₂.heap, slotsUsed := s₂.slotsUsed } : State).setVm s₂.vm := by
      have : s₂ = ({ s₂ with vm := (U.calling g mk a).vm } : State).setVm s₂.vm := rfl
      rw [e2] at this
      exact this
    obtain ⟨c₂, i₂, len₂, hc₂, hd₂, hf₂⟩ := hend
    have hW' : U.WarmedH s₂.vm := hW₂
    have hcc : c₂ = c := by
      have h1 : s₂.code? g.method = U.code? g.method := by
        rw [State.code?_eq, State.code?_eq, hW'.alike.method?]
      exact Option.some.inj (hc₂.symm.trans (h1.trans h.code))
    subst hcc
    have hlen : len₂ = len := by rw [hdg] at hd₂; cases hd₂; rfl
    subst hlen
    have hs₂ : s₂ = (({ U with heap := s₂.heap, slotsUsed := s₂.slotsUsed } : State).setVm s₂.vm).setTop { g with pc := g.pc + len₂, stack := v.toList ++ g.stack } := by
      refine e3.trans ?_
      rw [hf₂, State.calling_eq h.top, State.setFrames_setFrames, State.setTop_of_frames _ hr', hr]
      rfl
    have hsame : U.sameButNew ({ U with heap := s₂.heap, slotsUsed := s₂.slotsUsed } : State) L mc ms := by
      refine ⟨?_, q2, q3, q4, q5, q6⟩
      obtain ⟨t, ht, -⟩ := State.frames_cons hr
      show ({ U with heap := s₂.heap, slotsUsed := s₂.slotsUsed } : State) = { U.setFrames U.frames with heap := s₂.heap, slotsUsed := s₂.slotsUsed }
      rw [State.setFrames_self ht]
    subst hg
    refine Or.inl ⟨v, ⟨(({ U with heap := s₂.heap, slotsUsed := s₂.slotsUsed } : State).setVm s₂.vm), Ls ++ L, c0 + mc, s0 + ms⟩,
      ⟨X.admits, X.cas, X.clock, X.frames, X.room, X.hears, X.method, X.code, (X.here.setHeapUsed s₂.heap s₂.slotsUsed).setVm hW'.alike, X.tail, State.WarmedH.trans X.warmed hW', X.limits, X.bytes, X.same.trans (hsame.setVm s.vm)⟩,
      ⟨g, mk, s₂, L, rfl, rfl, hqc, rfl, hL, rfl, rfl⟩, ?_⟩
    show Steps p.tables e below _ ((({ U with heap := s₂.heap, slotsUsed := s₂.slotsUsed } : State).setVm s₂.vm).setTop { g with pc := g.pc + len₂, stack := v.toList ++ g.stack })
    rw [← hs₂]
    exact hsteps
  · obtain ⟨e2, q2, q3, q4, q5, q6⟩ := id hsm
    have e3 : s₂ = ({ (U.calling g mk a).setFrames s₂.frames with heap := s₂.heap, slotsUsed := s₂.slotsUsed } : State).setVm s₂.vm := by
      have : s₂ = ({ s₂ with vm := (U.calling g mk a).vm } : State).setVm s₂.vm := rfl
      rw [e2] at this
      exact this
    have hf₂ : s₂.frames = .throwing q :: .java g :: U.frames.tail := hend
    have hW' : U.WarmedH s₂.vm := hW₂
    have hs₂ : s₂ = ((({ U with heap := s₂.heap, slotsUsed := s₂.slotsUsed } : State).setVm s₂.vm).setTop g).pushFrame (.throwing q) := by
      refine e3.trans ?_
      rw [hf₂, State.calling_eq h.top, State.setFrames_setFrames, State.pushFrame, State.frames_setTop _ hr', State.setTop_of_frames _ hr', State.setFrames_setFrames, hr]
      rfl
    have hsame : U.sameButNew ({ U with heap := s₂.heap, slotsUsed := s₂.slotsUsed } : State) L mc ms := by
      refine ⟨?_, q2, q3, q4, q5, q6⟩
      obtain ⟨t, ht, -⟩ := State.frames_cons hr
      show ({ U with heap := s₂.heap, slotsUsed := s₂.slotsUsed } : State) = { U.setFrames U.frames with heap := s₂.heap, slotsUsed := s₂.slotsUsed }
      rw [State.setFrames_self ht]
    subst hg
    refine Or.inr ⟨q, ⟨(({ U with heap := s₂.heap, slotsUsed := s₂.slotsUsed } : State).setVm s₂.vm), Ls ++ L, c0 + mc, s0 + ms⟩,
      ⟨X.admits, X.cas, X.clock, X.frames, X.room, X.hears, X.method, X.code, (X.here.setHeapUsed s₂.heap s₂.slotsUsed).setVm hW'.alike, X.tail, State.WarmedH.trans X.warmed hW', X.limits, X.bytes, X.same.trans (hsame.setVm s.vm)⟩,
      ⟨g, mk, s₂, L, E, ce, rfl, rfl, hx, hce, hcv, hcl, rfl, hL, rfl, rfl⟩, ?_⟩
    show Steps p.tables e below _ (((({ U with heap := s₂.heap, slotsUsed := s₂.slotsUsed } : State).setVm s₂.vm).setTop g).pushFrame (.throwing q))
    rw [← hs₂]
    exact hsteps
end
variable {p : Program} {l : Launch} {e : Env} {R : Room} {s : State} {m : MethodId} {args : Array Value} {below : List Frame} {meth : Method} {c : Code} {T : State} {H : Heap} {locs : List Loc} {cells slots : Nat}
theorem vx_callVX (X : Stand p l e R s m args below meth c T locs cells slots) (hexec : p.tables.exec = Jvm.exec) {own C : String} {index : Nat} {y : MethodName} {bytes : ByteArray} {maxL : Nat} {ret : Option FieldType} {hh : List (Nat × Nat × Nat × Nat)}
    (hown : s.vm.findClass own = some m.cls) (hlink : (Cond.methodLink own index y).before args s = true) (hinst : (Cond.instanceMethod y).before args s = true) (hsel : (Cond.selects C y y).before args s = true)
    (hcode : (Cond.codeWith y bytes maxL ret hh).before args s = true) (hy : y.cls ≠ "java/lang/invoke/MethodHandle" ∧ y.cls ≠ "java/lang/invoke/VarHandle")
    {W9 : Nat} {Pre : Pt → Array Value → Prop} {Post : Pt → Array Value → Option Value → Pt → Prop} {PostX : Pt → Array Value → Addr → Pt → Prop} (hK : vx_Back l R p e below s args y 3 W9 Pre Post PostX)
    {b : Addr} {cellB : Cell} (hcell : T.heap[b]? = some cellB) (hobj : cellB.vm.isStatics = false) (hcls : s.vm.findClass C = some cellB.cls)
    {g : JFrame} (hg : g.method = m) (hsize : g.locals.size = c.maxLocals) {argsL rest : List Value} (hlen : ∀ sig, parseMethodDescriptor y.desc = some sig → argsL.length = sig.parameters.length)
    (hstack : g.stack = argsL.reverse ++ .ref b :: rest) (hW : 2 * g.monitorRoom + (rest.map fun v => v.category).sum ≤ W9) (hdg : decode c.code g.pc = .ok (.invokevirtual index, 3))
    (hpre : ∀ vm₁, s.WarmedH vm₁ → Pre ⟨T.setVm vm₁, locs, cells, slots⟩ (Value.ref b :: argsL).toArray) :
    (∃ (v : Option Value) (vm₁ : Vm) (B : Pt), s.WarmedH vm₁ ∧ Stand p l e R s m args below meth c B.U B.locs B.cells B.slots ∧ Post ⟨T.setVm vm₁, locs, cells, slots⟩ (Value.ref b :: argsL).toArray v B ∧
      ∀ target, Steps p.tables e below (B.U.setTop { g with pc := g.pc + 3, stack := v.toList ++ rest }) target → Steps p.tables e below (T.setTop g) target) ∨
    (∃ (q : Addr) (vm₁ : Vm) (B : Pt), s.WarmedH vm₁ ∧ Stand p l e R s m args below meth c B.U B.locs B.cells B.slots ∧ PostX ⟨T.setVm vm₁, locs, cells, slots⟩ (Value.ref b :: argsL).toArray q B ∧
      Steps p.tables e below (T.setTop g) ((B.U.setTop { g with stack := rest }).pushFrame (.throwing q))) := by
  obtain ⟨mk, methM, hnamed, hmethM, hstM, habM⟩ := Cond.instanceMethod_spec hinst
  obtain ⟨m8, methM', cM, hn8, hmethM', -, -, -, -, -, -, hsigM⟩ := Cond.codeWith_spec hcode
  cases Option.some.inj (hn8.symm.trans hnamed)
  cases hmethM.symm.trans hmethM'
  obtain ⟨c2, r2, m2, q1, q2, q3, q4, kP, hkP, hkPi⟩ := Cond.selects_spec hsel
  cases hcls.symm.trans q1
  cases (State.methodFound?_of_named hnamed hy).symm.trans q2
  cases hnamed.symm.trans q3
  have hselP : selectMethod e.platform s.vm cellB.cls mk = .method mk := by rw [Launch.admits_selectMethod X.admits]; exact q4
  obtain ⟨vm₁, X₁, hstep₁⟩ := X.invokevirtual hexec hown hlink hnamed hmethM hstM hkP hkPi hy (a := b) (cell := cellB) hcell
    (fun z h => by rw [h] at hobj; cases hobj) hselP hmethM habM hkP hkPi (g := g) hg (argsL := argsL) (rest := rest) (hlen _ hsigM) hstack hdg
  rcases hK m meth c ⟨T.setVm vm₁, locs, cells, slots⟩ { g with stack := rest } (.invokevirtual index) mk (Value.ref b :: argsL).toArray X₁ hg hsize hdg hW (X₁.named hnamed) (hpre vm₁ X₁.warmed) with ⟨v, B, X', hpost, hsteps⟩ | ⟨q, B, X', hpost, hsteps⟩
  · exact Or.inl ⟨v, vm₁, B, X₁.warmed, X', hpost, fun target h => hstep₁ _ fun acts => by rw [doInvoke_state]; exact hsteps.trans h⟩
  · exact Or.inr ⟨q, vm₁, B, X₁.warmed, X', hpost, hstep₁ _ fun acts => by rw [doInvoke_state]; exact hsteps⟩
theorem vx_callSX (X : Stand p l e R s m args below meth c T locs cells slots) (hexec : p.tables.exec = Jvm.exec) {own : String} {index : Nat} {y : MethodName} {bytes : ByteArray} {maxL : Nat} {ret : Option FieldType} {hh : List (Nat × Nat × Nat × Nat)}
    (hown : s.vm.findClass own = some m.cls) (hlink : (Cond.methodLink own index y).before args s = true) (hstat : (Cond.static y).before args s = true) (hinit : (Cond.initialized y.cls).before args s = true)
    (hcode : (Cond.codeWith y bytes maxL ret hh).before args s = true) (hy : y.cls ≠ "java/lang/invoke/MethodHandle" ∧ y.cls ≠ "java/lang/invoke/VarHandle")
    {W9 : Nat} {Pre : Pt → Array Value → Prop} {Post : Pt → Array Value → Option Value → Pt → Prop} {PostX : Pt → Array Value → Addr → Pt → Prop} (hK : vx_Back l R p e below s args y 3 W9 Pre Post PostX)
    {g : JFrame} (hg : g.method = m) (hsize : g.locals.size = c.maxLocals) {argsL rest : List Value} (hlen : ∀ sig, parseMethodDescriptor y.desc = some sig → argsL.length = sig.parameters.length)
    (hstack : g.stack = argsL.reverse ++ rest) (hW : 2 * g.monitorRoom + (rest.map fun v => v.category).sum ≤ W9) (hdg : decode c.code g.pc = .ok (.invokestatic index, 3))
    (hpre : ∀ vm₁, s.WarmedH vm₁ → Pre ⟨T.setVm vm₁, locs, cells, slots⟩ argsL.toArray) :
    (∃ (v : Option Value) (vm₁ : Vm) (B : Pt), s.WarmedH vm₁ ∧ Stand p l e R s m args below meth c B.U B.locs B.cells B.slots ∧ Post ⟨T.setVm vm₁, locs, cells, slots⟩ argsL.toArray v B ∧
      ∀ target, Steps p.tables e below (B.U.setTop { g with pc := g.pc + 3, stack := v.toList ++ rest }) target → Steps p.tables e below (T.setTop g) target) ∨
    (∃ (q : Addr) (vm₁ : Vm) (B : Pt), s.WarmedH vm₁ ∧ Stand p l e R s m args below meth c B.U B.locs B.cells B.slots ∧ PostX ⟨T.setVm vm₁, locs, cells, slots⟩ argsL.toArray q B ∧
      Steps p.tables e below (T.setTop g) ((B.U.setTop { g with stack := rest }).pushFrame (.throwing q))) := by
  obtain ⟨mk, methM, cM, hnamed, hmethM, -, -, -, -, -, -, hsigM⟩ := Cond.codeWith_spec hcode
  have hstatic : methM.isStatic = true := Cond.static_spec hnamed hmethM hstat
  obtain ⟨kP, hkP, -⟩ := className_of_methodNamed hnamed
  have hinitP : kP.init = .initialized := Cond.initialized_spec (findClass_of_methodNamed hnamed) hkP hinit
  obtain ⟨vm₁, X₁, hstep₁⟩ := X.invokestatic hexec hown hlink hnamed hmethM hstatic hkP hinitP hy (g := g) hg (argsL := argsL) (rest := rest) (hlen _ hsigM) hstack hdg
  rcases hK m meth c ⟨T.setVm vm₁, locs, cells, slots⟩ { g with stack := rest } (.invokestatic index) mk argsL.toArray X₁ hg hsize hdg hW (X₁.named hnamed) (hpre vm₁ X₁.warmed) with ⟨v, B, X', hpost, hsteps⟩ | ⟨q, B, X', hpost, hsteps⟩
  · exact Or.inl ⟨v, vm₁, B, X₁.warmed, X', hpost, fun target h => hstep₁ _ fun acts => by rw [doInvoke_state]; exact hsteps.trans h⟩
  · exact Or.inr ⟨q, vm₁, B, X₁.warmed, X', hpost, hstep₁ _ fun acts => by rw [doInvoke_state]; exact hsteps⟩
theorem vx_callVW (X : Stand p l e R s m args below meth c T locs cells slots) (hexec : p.tables.exec = Jvm.exec) {own C : String} {index : Nat} {y : MethodName} {bytes : ByteArray} {maxL : Nat} {ret : Option FieldType} {hh : List (Nat × Nat × Nat × Nat)}
    (hown : s.vm.findClass own = some m.cls) (hlink : (Cond.methodLink own index y).before args s = true) (hinst : (Cond.instanceMethod y).before args s = true) (hsel : (Cond.selects C y y).before args s = true)
    (hcode : (Cond.codeWith y bytes maxL ret hh).before args s = true) (hy : y.cls ≠ "java/lang/invoke/MethodHandle" ∧ y.cls ≠ "java/lang/invoke/VarHandle")
    {W9 : Nat} {Pre : Pt → Array Value → Prop} {Post : Pt → Array Value → Option Value → Pt → Prop} (hK : Back l R p e below s args y 3 W9 Pre Post)
    {b : Addr} {cellB : Cell} (hcell : T.heap[b]? = some cellB) (hobj : cellB.vm.isStatics = false) (hcls : s.vm.findClass C = some cellB.cls)
    {g : JFrame} (hg : g.method = m) (hsize : g.locals.size = c.maxLocals) {argsL rest : List Value} (hlen : ∀ sig, parseMethodDescriptor y.desc = some sig → argsL.length = sig.parameters.length)
    (hstack : g.stack = argsL.reverse ++ .ref b :: rest) (hW : 2 * g.monitorRoom + (rest.map fun v => v.category).sum ≤ W9) (hdg : decode c.code g.pc = .ok (.invokevirtual index, 3))
    (hpre : ∀ vm₁, s.WarmedH vm₁ → Pre ⟨T.setVm vm₁, locs, cells, slots⟩ (Value.ref b :: argsL).toArray) :
    ∃ (v : Option Value) (vm₁ : Vm) (B : Pt), s.WarmedH vm₁ ∧ Stand p l e R s m args below meth c B.U B.locs B.cells B.slots ∧ Post ⟨T.setVm vm₁, locs, cells, slots⟩ (Value.ref b :: argsL).toArray v B ∧
      ∀ target, Steps p.tables e below (B.U.setTop { g with pc := g.pc + 3, stack := v.toList ++ rest }) target → Steps p.tables e below (T.setTop g) target := by
  obtain ⟨mk, methM, hnamed, hmethM, hstM, habM⟩ := Cond.instanceMethod_spec hinst
  obtain ⟨m8, methM', cM, hn8, hmethM', -, -, -, -, -, -, hsigM⟩ := Cond.codeWith_spec hcode
  cases Option.some.inj (hn8.symm.trans hnamed)
  cases hmethM.symm.trans hmethM'
  obtain ⟨c2, r2, m2, q1, q2, q3, q4, kP, hkP, hkPi⟩ := Cond.selects_spec hsel
  cases hcls.symm.trans q1
  cases (State.methodFound?_of_named hnamed hy).symm.trans q2
  cases hnamed.symm.trans q3
  have hselP : selectMethod e.platform s.vm cellB.cls mk = .method mk := by rw [Launch.admits_selectMethod X.admits]; exact q4
  obtain ⟨vm₁, X₁, hstep₁⟩ := X.invokevirtual hexec hown hlink hnamed hmethM hstM hkP hkPi hy (a := b) (cell := cellB) hcell
    (fun z h => by rw [h] at hobj; cases hobj) hselP hmethM habM hkP hkPi (g := g) hg (argsL := argsL) (rest := rest) (hlen _ hsigM) hstack hdg
  obtain ⟨v, B, X', hpost, hsteps⟩ := hK m meth c ⟨T.setVm vm₁, locs, cells, slots⟩ { g with stack := rest } (.invokevirtual index) mk (Value.ref b :: argsL).toArray X₁ hg hsize hdg hW (X₁.named hnamed) (hpre vm₁ X₁.warmed)
  exact ⟨v, vm₁, B, X₁.warmed, X', hpost, fun target h => hstep₁ _ fun acts => by rw [doInvoke_state]; exact hsteps.trans h⟩
abbrev vx_CVW (R : Room) (s : State) (args : Array Value) (own C : String) (index : Nat) (y : MethodName) (bytes : ByteArray) (maxL : Nat) (ret : Option FieldType) (hh : List (Nat × Nat × Nat × Nat)) (ws : List Cond) (rm : Room) (mc ms n : Nat) : Prop :=
  (rm.cells = mc ∧ rm.slots = ms ∧ rm.frames + 1 ≤ R.frames ∧ 8 + (maxL + 11) + rm.locals ≤ R.locals ∧ (∀ w ∈ ws, ∀ (a' : Array Value) (U : State), s.WarmedH U.vm → w.before a' U = true) ∧ Cond.codeWith y bytes maxL ret hh ∈ ws) ∧
  (Cond.codeWith y bytes maxL ret hh).before args s = true ∧ (Cond.initialized y.cls).before args s = true ∧ (y.cls ≠ "java/lang/invoke/MethodHandle" ∧ y.cls ≠ "java/lang/invoke/VarHandle") ∧
  (∀ sig, parseMethodDescriptor y.desc = some sig → n = sig.parameters.length) ∧ (Cond.methodLink own index y).before args s = true ∧ (Cond.instanceMethod y).before args s = true ∧ (Cond.selects C y y).before args s = true
theorem vx_cwVW {own C : String} {index maxL mc ms : Nat} {y : MethodName} {bytes : ByteArray} {ret : Option FieldType} {hh : List (Nat × Nat × Nat × Nat)} {Ts ws ws' : List Cond} {rm : Room} (n : Nat) (ht : ∀ w ∈ Ts, w.before args s = true) (hT : GoodIn Ts (wsV own index C y ws)) (hw : ws = Cond.codeWith y bytes maxL ret hh :: ws') (hrc : rm.cells = mc) (hrs : rm.slots = ms)
    (hd : y.cls = C ∧ y.cls ≠ "java/lang/invoke/MethodHandle" ∧ y.cls ≠ "java/lang/invoke/VarHandle" ∧ (parseMethodDescriptor y.desc).map (fun d => d.parameters.length) = some n) (hR : rm.frames + 1 ≤ R.frames ∧ 8 + (maxL + 11) + rm.locals ≤ R.locals) :
    vx_CVW R s args own C index y bytes maxL ret hh ws rm mc ms n := by
  obtain ⟨hC, hd⟩ := hd
  subst hC
  have ok : ∀ w ∈ wsV own index y.cls y ws, w.before args s = true := fun w h => ht w (hT w h).1
  have hG : GoodIn Ts ws := fun w h => hT w (by unfold wsV; exact List.mem_append_right _ h)
  have hc : Cond.codeWith y bytes maxL ret hh ∈ ws := by rw [hw]; exact List.mem_cons_self
  refine ⟨⟨hrc, hrs, hR.1, hR.2, pay_in ht hG, hc⟩, ht _ (hG _ hc).1, ok _ (by simp [wsV]), ⟨hd.1, hd.2.1⟩, fun sig h => ?_, ok _ (by simp [wsV]), ok _ (by simp [wsV]), ok _ (by simp [wsV])⟩
  have h2 := hd.2.2
  rw [h] at h2
  exact (Option.some.inj h2).symm
theorem vx_runVW {y : MethodName} {bytes cc : ByteArray} {maxL nL mc ms n index : Nat} {ret : Option FieldType} {hh : List (Nat × Nat × Nat × Nat)} {ws : List Cond} {rm : Room} {Pc : Array Value → State → Prop} {Qc : Array Value → State → Outcome → State → Prop} {free : Addr → Prop} {Ts : List Cond} {own C : String} {b : Addr} {As rest : List Value} {g : JFrame}
    (S : CallFix p m c cc nL s args Ts own) (hM : Met l y ws rm Pc Qc mc ms free) (cw : vx_CVW R s args own C index y bytes maxL ret hh ws rm mc ms n) (hp : PreV s H C b Pc As)
    (hg : g.method = m) (hn : As.length = n) (hsize : g.locals.size = nL) (hstack : g.stack = As.reverse ++ .ref b :: rest) (hW : 2 * g.monitorRoom + (rest.map fun v => v.category).sum ≤ 8) (hdg : decode cc g.pc = .ok (.invokevirtual index, 3)) (hf : cells + mc ≤ R.cells ∧ slots + ms ≤ R.slots) :
    va_Run p l e R s m args below meth c H locs cells slots mc ms g rest (Qc (Value.ref b :: As).toArray) free := by
  obtain ⟨⟨hrc, hrs, hfr, hlo, hws, hcw⟩, hcode, hini, hy, hlen, hl, hin, hse⟩ := cw
  have hK : Back l R p e below s args y 3 8 (PreOf R mc ms Pc) (PostOf Qc mc ms free) := va_backW (hh := hh) (bytes := bytes) (maxL := maxL) (ret := ret) hM hp.1 hrc hrs hfr hlo hws hcw (fun a' U hW => word_at hW (Or.inl (by first | rfl | simp [Cond.onTables, Cond.keeps, Cond.steady])) hini)
  obtain ⟨hx, hb, hml, ho, -⟩ := S
  obtain ⟨-, ⟨cellB, hcB, hoB, hclB⟩, hPc⟩ := hp
  intro T hT X
  obtain ⟨v, vm₁, ⟨U', l2, c2, s2⟩, hW₁, X', ⟨g', mk, t, L, e1, e2, hq, h1, hL, h2, h3⟩, st⟩ := vx_callVW X hx (C := C) (hh := hh) (bytes := bytes) (maxL := maxL) (ret := ret) ho hl hin hse hcode hy hK (by rw [hT]; exact hcB) hoB hclB hg (hsize.trans hml.symm) (argsL := As) (rest := rest) (fun sig h => hn.trans (hlen sig h)) hstack hW (by rw [hb]; exact hdg)
    (fun vm₁ hW₁ => ⟨hf.1, hf.2, hPc (T.setVm vm₁) hT hW₁⟩)
  dsimp only [Pt.U, Pt.locs, Pt.cells, Pt.slots] at X' e1 e2 h1 h2 h3 st
  subst h1; subst h2; subst h3
  exact ⟨v, (T.setVm vm₁).calling g' mk (Value.ref b :: As).toArray, t, U', L, hT, X', hL, e1, e2, hq, st⟩
section
variable {y : MethodName} {bytes cc : ByteArray} {maxL nL mc ms n index : Nat} {ret : Option FieldType} {ws : List Cond} {rm : Room} {Pc : Array Value → State → Prop} {Qc : Array Value → State → Outcome → State → Prop} {XC : String → State → State → Prop} {free : Addr → Prop} {Ts : List Cond} {own C : String} {b : Addr} {As rest : List Value} {g : JFrame}
theorem vx_runVX {hh : List (Nat × Nat × Nat × Nat)} (S : CallFix p m c cc nL s args Ts own) (hM : vx_Met l y ws rm Pc Qc XC mc ms free) (cw : vx_CVW R s args own C index y bytes maxL ret hh ws rm mc ms n) (hp : PreV s H C b Pc As)
    (hg : g.method = m) (hn : As.length = n) (hsize : g.locals.size = nL) (hstack : g.stack = As.reverse ++ .ref b :: rest) (hW : 2 * g.monitorRoom + (rest.map fun v => v.category).sum ≤ 8) (hdg : decode cc g.pc = .ok (.invokevirtual index, 3)) (hf : cells + mc ≤ R.cells ∧ slots + ms ≤ R.slots) :
    vx_Run p l e R s m args below meth c H locs cells slots mc ms g rest (Qc (Value.ref b :: As).toArray) XC free := by
  obtain ⟨⟨hrc, hrs, hfr, hlo, hws, hcw⟩, hcode, hini, hy, hlen, hl, hin, hse⟩ := cw
  have hK : vx_Back l R p e below s args y 3 8 (PreOf R mc ms Pc) (PostOf Qc mc ms free) (vx_Post XC mc ms free) := vx_backW (hh := hh) (bytes := bytes) (maxL := maxL) (ret := ret) hM hp.1 hrc hrs hfr hlo hws hcw (fun a' U hW => word_at hW (Or.inl (by first | rfl | simp [Cond.onTables, Cond.keeps, Cond.steady])) hini)
  obtain ⟨hx, hb, hml, ho, -⟩ := S
  obtain ⟨-, ⟨cellB, hcB, hoB, hclB⟩, hPc⟩ := hp
  intro T hT X
  rcases vx_callVX X hx (C := C) (hh := hh) (bytes := bytes) (maxL := maxL) (ret := ret) ho hl hin hse hcode hy hK (by rw [hT]; exact hcB) hoB hclB hg (hsize.trans hml.symm) (argsL := As) (rest := rest) (fun sig h => hn.trans (hlen sig h)) hstack hW (by rw [hb]; exact hdg)
    (fun vm₁ hW₁ => ⟨hf.1, hf.2, hPc (T.setVm vm₁) hT hW₁⟩) with ⟨v, vm₁, ⟨U', l2, c2, s2⟩, hW₁, X', ⟨g', mk, t, L, e1, e2, hq, h1, hL, h2, h3⟩, st⟩ | ⟨q, vm₁, ⟨U', l2, c2, s2⟩, hW₁, X', ⟨g', mk, t, L, E, ce, e1, e2, hq, hce, hcv, hcl, h1, hL, h2, h3⟩, st⟩
  · dsimp only [Pt.U, Pt.locs, Pt.cells, Pt.slots] at X' e1 e2 h1 h2 h3 st
    subst h1; subst h2; subst h3
    exact Or.inl ⟨v, (T.setVm vm₁).calling g' mk (Value.ref b :: As).toArray, t, U', L, hT, X', hL, e1, e2, hq, st⟩
  · dsimp only [Pt.U, Pt.locs, Pt.cells, Pt.slots] at X' e1 e2 h1 h2 h3 st hcl
    subst h1; subst h2; subst h3
    exact Or.inr ⟨q, (T.setVm vm₁).calling g' mk (Value.ref b :: As).toArray, t, U', L, E, ce, hT, X', hL, e1, e2, hq, hce, hcv, vx_cls hW₁ hcl, st⟩
theorem vx_runSX {hh : List (Nat × Nat × Nat × Nat)} (S : CallFix p m c cc nL s args Ts own) (hM : vx_Met l y ws rm Pc Qc XC mc ms free) (cw : vx_CSW R s args own index y bytes maxL ret hh ws rm mc ms n) (hp : PreS s H Pc As)
    (hg : g.method = m) (hn : As.length = n) (hsize : g.locals.size = nL) (hstack : g.stack = As.reverse ++ rest) (hW : 2 * g.monitorRoom + (rest.map fun v => v.category).sum ≤ 8) (hdg : decode cc g.pc = .ok (.invokestatic index, 3)) (hf : cells + mc ≤ R.cells ∧ slots + ms ≤ R.slots) :
    vx_Run p l e R s m args below meth c H locs cells slots mc ms g rest (Qc As.toArray) XC free := by
  obtain ⟨⟨hrc, hrs, hfr, hlo, hws, hcw⟩, hcode, hini, hy, hlen, hl, hstt⟩ := cw
  have hK : vx_Back l R p e below s args y 3 8 (PreOf R mc ms Pc) (PostOf Qc mc ms free) (vx_Post XC mc ms free) := vx_backW (hh := hh) (bytes := bytes) (maxL := maxL) (ret := ret) hM hp.1 hrc hrs hfr hlo hws hcw (fun a' U hW => word_at hW (Or.inl (by first | rfl | simp [Cond.onTables, Cond.keeps, Cond.steady])) hini)
  obtain ⟨hx, hb, hml, ho, -⟩ := S
  intro T hT X
  rcases vx_callSX X hx (hh := hh) (bytes := bytes) (maxL := maxL) (ret := ret) ho hl hstt hini hcode hy hK hg (hsize.trans hml.symm) (argsL := As) (rest := rest) (fun sig h => hn.trans (hlen sig h)) hstack hW (by rw [hb]; exact hdg)
    (fun vm₁ hW₁ => ⟨hf.1, hf.2, hp.2 (T.setVm vm₁) hT hW₁⟩) with ⟨v, vm₁, ⟨U', l2, c2, s2⟩, hW₁, X', ⟨g', mk, t, L, e1, e2, hq, h1, hL, h2, h3⟩, st⟩ | ⟨q, vm₁, ⟨U', l2, c2, s2⟩, hW₁, X', ⟨g', mk, t, L, E, ce, e1, e2, hq, hce, hcv, hcl, h1, hL, h2, h3⟩, st⟩
  · dsimp only [Pt.U, Pt.locs, Pt.cells, Pt.slots] at X' e1 e2 h1 h2 h3 st
    subst h1; subst h2; subst h3
    exact Or.inl ⟨v, (T.setVm vm₁).calling g' mk As.toArray, t, U', L, hT, X', hL, e1, e2, hq, st⟩
  · dsimp only [Pt.U, Pt.locs, Pt.cells, Pt.slots] at X' e1 e2 h1 h2 h3 st hcl
    subst h1; subst h2; subst h3
    exact Or.inr ⟨q, (T.setVm vm₁).calling g' mk As.toArray, t, U', L, E, ce, hT, X', hL, e1, e2, hq, hce, hcv, vx_cls hW₁ hcl, st⟩
end
end VXH
theorem vx_ofWH {l : Launch} {y : MethodName} {ws ws' : List Cond} {rm : Room} {Pc : Array Value → State → Prop} {Qc : Array Value → State → Outcome → State → Prop} {XC : String → State → State → Prop} {mc ms : Nat} {free : Addr → Prop} {cc : ByteArray} {maxL : Nat} {ret : Option FieldType} {hh : List (Nat × Nat × Nat × Nat)}
    (hy : plainName y.cls = true) (hw : ws = Cond.codeWith y cc maxL ret hh :: ws')
    (body : ∀ p e s m args below meth c s₁, BodyLoose p l y (headSpec ws rm) cc maxL ret e s m args below meth c s₁ → c.maxLocals = maxL → Pc args s →
      W p l e (headSpec ws rm).room s m args below meth c s.heap [] 0 0 (vx_MQ below Qc XC args s mc ms free) (entryFrame m args maxL)) : vx_Met l y ws rm Pc Qc XC mc ms free := by
  refine MetFree.of_bodyS (code := cc) (maxLocals := maxL) (ret := ret) hy ?_ ?_
  · intro args s m h hn
    obtain ⟨m9, meth, c, hn9, h1, h2, h3, h4, -, h5, h6, -⟩ := Cond.codeWith_spec (atoms_spec (ws := ws) h _ (by rw [hw]; exact List.mem_cons_self))
    cases hn.symm.trans hn9
    exact ⟨meth, c, h1, h2, h3, h4, h5, h6⟩
  · intro p e s m args below meth c s₁ B hml hP _
    have hh0 : s₁.heap = s.heap := by rw [B.state]; rfl
    obtain ⟨t, a1, o, b1, b2, b3⟩ := body p e s m args below meth c s₁ B hml hP s₁ hh0 (Stand.of_body B)
    exact ⟨t, o, a1, b1, b2, b3⟩
/-! ===== END ===== -/
end
section
def RX0 : String := "PastureBids$BestSet"
def TX0 : u_T := fun k => match k with
  | 0 => ("PastureBids$BestSet", "gained", "I", false)
  | _ => ("PastureBids$BestSet", "bids", "I", false)
def tyX0 : Nat → FieldType := fun k => match k with
  | 0 => .int
  | _ => .int
abbrev wsX00 : List Cond := u_ws RX0 TX0 2
theorem nmX0 : ∀ a, a < 2 → ∀ b, b < 2 → a ≠ b → (TX0 a).2.1 ≠ (TX0 b).2.1 := by decide +kernel
theorem tyX0_ok : ∀ k, k < 2 → parseFieldDescriptor (TX0 k).2.2.1 = some (tyX0 k) := by decide +kernel
abbrev cX0_init : ByteArray := prog_2_method_1_code
def yX0_init : MethodName := ⟨RX0, "<init>", "()V"⟩
abbrev cX0_clear : ByteArray := prog_2_method_2_code
def yX0_clear : MethodName := ⟨RX0, "clear", "()V"⟩
abbrev cX0_consider : ByteArray := prog_2_method_3_code
def yX0_consider : MethodName := ⟨RX0, "consider", "(II)V"⟩
abbrev cX0_isBeatenBy : ByteArray := prog_2_method_4_code
def yX0_isBeatenBy : MethodName := ⟨RX0, "isBeatenBy", "(II)Z"⟩
abbrev cX0_has : ByteArray := prog_2_method_5_code
def yX0_has : MethodName := ⟨RX0, "has", "(I)Z"⟩
def RX1 : String := "PastureBids$Sale"
def TX1 : u_T := fun k => match k with
  | 0 => ("PastureBids$Sale", "winners", "LPastureBids$BestSet;", true)
  | 1 => ("PastureBids$Sale", "winningBids", "[I", true)
  | 2 => ("PastureBids$Sale", "paid", "[I", true)
  | _ => ("PastureBids$Sale", "gainedWithout", "[I", true)
def tyX1 : Nat → FieldType := fun k => match k with
  | 0 => .object "PastureBids$BestSet"
  | 1 => .array .int
  | 2 => .array .int
  | _ => .array .int
abbrev wsX10 : List Cond := u_ws RX1 TX1 4
theorem nmX1 : ∀ a, a < 4 → ∀ b, b < 4 → a ≠ b → (TX1 a).2.1 ≠ (TX1 b).2.1 := by decide +kernel
theorem tyX1_ok : ∀ k, k < 4 → parseFieldDescriptor (TX1 k).2.2.1 = some (tyX1 k) := by decide +kernel
abbrev cX1_init : ByteArray := prog_3_method_1_code
def yX1_init : MethodName := ⟨RX1, "<init>", "()V"⟩
abbrev cX1_clear : ByteArray := prog_3_method_2_code
def yX1_clear : MethodName := ⟨RX1, "clear", "()V"⟩
abbrev cX1_totalPaid : ByteArray := prog_3_method_3_code
def yX1_totalPaid : MethodName := ⟨RX1, "totalPaid", "()I"⟩
def RX2 : String := "PastureBids"
def TX2 : u_T := fun k => match k with
  | 0 => ("PastureBids", "reserves", "[I", true)
  | 1 => ("PastureBids", "fieldCount", "I", false)
  | 2 => ("PastureBids", "ins", "[Z", true)
  | 3 => ("PastureBids", "bidderCount", "I", false)
  | 4 => ("PastureBids", "owners", "[I", true)
  | 5 => ("PastureBids", "bundles", "[I", true)
  | 6 => ("PastureBids", "prices", "[I", true)
  | 7 => ("PastureBids", "gains", "[I", true)
  | 8 => ("PastureBids", "worths", "[I", true)
  | 9 => ("PastureBids", "withdrawn", "[Z", true)
  | 10 => ("PastureBids", "bidCount", "I", false)
  | 11 => ("PastureBids", "sale", "LPastureBids$Sale;", true)
  | 12 => ("PastureBids", "imagined", "LPastureBids$Sale;", true)
  | _ => ("PastureBids", "search", "LPastureBids$BestSet;", true)
def tyX2 : Nat → FieldType := fun k => match k with
  | 0 => .array .int
  | 1 => .int
  | 2 => .array .boolean
  | 3 => .int
  | 4 => .array .int
  | 5 => .array .int
  | 6 => .array .int
  | 7 => .array .int
  | 8 => .array .int
  | 9 => .array .boolean
  | 10 => .int
  | 11 => .object "PastureBids$Sale"
  | 12 => .object "PastureBids$Sale"
  | _ => .object "PastureBids$BestSet"
abbrev wsX20 : List Cond := u_ws RX2 TX2 14
theorem nmX2 : ∀ a, a < 14 → ∀ b, b < 14 → a ≠ b → (TX2 a).2.1 ≠ (TX2 b).2.1 := by decide +kernel
theorem tyX2_ok : ∀ k, k < 14 → parseFieldDescriptor (TX2 k).2.2.1 = some (tyX2 k) := by decide +kernel
abbrev cX2_init : ByteArray := prog_1_method_1_code
def yX2_init : MethodName := ⟨RX2, "<init>", "()V"⟩
abbrev cX2_field : ByteArray := prog_1_method_2_code
def yX2_field : MethodName := ⟨RX2, "field", "(I)I"⟩
abbrev cX2_setReserve : ByteArray := prog_1_method_3_code
def yX2_setReserve : MethodName := ⟨RX2, "setReserve", "(II)I"⟩
abbrev cX2_join : ByteArray := prog_1_method_4_code
def yX2_join : MethodName := ⟨RX2, "join", "()I"⟩
abbrev cX2_setIn : ByteArray := prog_1_method_5_code
def yX2_setIn : MethodName := ⟨RX2, "setIn", "(IZ)Z"⟩
abbrev cX2_bid : ByteArray := prog_1_method_6_code
def yX2_bid : MethodName := ⟨RX2, "bid", "(III)I"⟩
abbrev cX2_setPrice : ByteArray := prog_1_method_7_code
def yX2_setPrice : MethodName := ⟨RX2, "setPrice", "(II)I"⟩
abbrev cX2_setWorth : ByteArray := prog_1_method_8_code
def yX2_setWorth : MethodName := ⟨RX2, "setWorth", "(II)I"⟩
abbrev cX2_withdraw : ByteArray := prog_1_method_9_code
def yX2_withdraw : MethodName := ⟨RX2, "withdraw", "(I)I"⟩
abbrev cX2_told : ByteArray := prog_1_method_10_code
def yX2_told : MethodName := ⟨RX2, "told", "(II)I"⟩
abbrev cX2_about : ByteArray := prog_1_method_11_code
def yX2_about : MethodName := ⟨RX2, "about", "(II)I"⟩
abbrev cX2_land : ByteArray := prog_1_method_12_code
def yX2_land : MethodName := ⟨RX2, "land", "(II)I"⟩
abbrev cX2_count : ByteArray := prog_1_method_13_code
def yX2_count : MethodName := ⟨RX2, "count", "(I)I"⟩
abbrev cX2_alone : ByteArray := prog_1_method_14_code
def yX2_alone : MethodName := ⟨RX2, "alone", "(II)I"⟩
abbrev cX2_mean : ByteArray := prog_1_method_18_code
def yX2_mean : MethodName := ⟨RX2, "mean", "()D"⟩
abbrev cX2_requireField : ByteArray := prog_1_method_21_code
def yX2_requireField : MethodName := ⟨RX2, "requireField", "(I)V"⟩
abbrev cX2_requireBidder : ByteArray := prog_1_method_22_code
def yX2_requireBidder : MethodName := ⟨RX2, "requireBidder", "(I)V"⟩
abbrev cX2_requireBid : ByteArray := prog_1_method_23_code
def yX2_requireBid : MethodName := ⟨RX2, "requireBid", "(I)V"⟩
abbrev cX2_requireWhat : ByteArray := prog_1_method_24_code
def yX2_requireWhat : MethodName := ⟨RX2, "requireWhat", "(II)V"⟩
abbrev cX2_requireReserve : ByteArray := prog_1_method_25_code
def yX2_requireReserve : MethodName := ⟨RX2, "requireReserve", "(I)V"⟩
abbrev cX2_requireAmount : ByteArray := prog_1_method_26_code
def yX2_requireAmount : MethodName := ⟨RX2, "requireAmount", "(I)V"⟩
abbrev cX2_requireBundle : ByteArray := prog_1_method_27_code
def yX2_requireBundle : MethodName := ⟨RX2, "requireBundle", "(I)V"⟩
abbrev cX2_putPrice : ByteArray := prog_1_method_28_code
def yX2_putPrice : MethodName := ⟨RX2, "putPrice", "(II)V"⟩
abbrev cX2_reservesOf : ByteArray := prog_1_method_29_code
def yX2_reservesOf : MethodName := ⟨RX2, "reservesOf", "(I)I"⟩
abbrev cX2_hasField : ByteArray := prog_1_method_30_code
def yX2_hasField : MethodName := ⟨RX2, "hasField", "(II)Z"⟩
abbrev cX2_counts : ByteArray := prog_1_method_31_code
def yX2_counts : MethodName := ⟨RX2, "counts", "(I)Z"⟩
abbrev cX2_bidsLeft : ByteArray := prog_1_method_32_code
def yX2_bidsLeft : MethodName := ⟨RX2, "bidsLeft", "()I"⟩
abbrev cX2_bidsLeftOf : ByteArray := prog_1_method_33_code
def yX2_bidsLeftOf : MethodName := ⟨RX2, "bidsLeftOf", "(I)I"⟩
abbrev cX2_countingBidsWith : ByteArray := prog_1_method_34_code
def yX2_countingBidsWith : MethodName := ⟨RX2, "countingBidsWith", "(I)I"⟩
abbrev cX2_ownerOf : ByteArray := prog_1_method_35_code
def yX2_ownerOf : MethodName := ⟨RX2, "ownerOf", "(I)I"⟩
abbrev cX2_asNumber : ByteArray := prog_1_method_36_code
def yX2_asNumber : MethodName := ⟨RX2, "asNumber", "(Z)I"⟩
abbrev cX2_settle : ByteArray := prog_1_method_37_code
def yX2_settle : MethodName := ⟨RX2, "settle", "(LPastureBids$Sale;I)V"⟩
abbrev cX2_award : ByteArray := prog_1_method_38_code
def yX2_award : MethodName := ⟨RX2, "award", "(LPastureBids$Sale;I)V"⟩
abbrev cX2_findWinners : ByteArray := prog_1_method_39_code
def yX2_findWinners : MethodName := ⟨RX2, "findWinners", "(LPastureBids$BestSet;I)V"⟩
abbrev cX2_seek : ByteArray := prog_1_method_40_code
def yX2_seek : MethodName := ⟨RX2, "seek", "(LPastureBids$BestSet;IIIII)V"⟩
abbrev cX2_seekWith : ByteArray := prog_1_method_41_code
def yX2_seekWith : MethodName := ⟨RX2, "seekWith", "(LPastureBids$BestSet;IIIII)V"⟩
abbrev cX2_profit : ByteArray := prog_1_method_43_code
def yX2_profit : MethodName := ⟨RX2, "profit", "(LPastureBids$Sale;I)I"⟩
abbrev cX2_totalProfit : ByteArray := prog_1_method_44_code
def yX2_totalProfit : MethodName := ⟨RX2, "totalProfit", "()I"⟩
abbrev cX2_winningPrices : ByteArray := prog_1_method_45_code
def yX2_winningPrices : MethodName := ⟨RX2, "winningPrices", "()I"⟩
abbrev cX2_soldFields : ByteArray := prog_1_method_46_code
def yX2_soldFields : MethodName := ⟨RX2, "soldFields", "()I"⟩
abbrev cX2_winnerOfField : ByteArray := prog_1_method_47_code
def yX2_winnerOfField : MethodName := ⟨RX2, "winnerOfField", "(I)I"⟩
abbrev cX2_highestAlone : ByteArray := prog_1_method_48_code
def yX2_highestAlone : MethodName := ⟨RX2, "highestAlone", "(II)I"⟩
abbrev cX2_secondPrice : ByteArray := prog_1_method_49_code
def yX2_secondPrice : MethodName := ⟨RX2, "secondPrice", "(II)I"⟩
def RX3 : String := "PastureBidsLaw$Sim"
def TX3 : u_T := fun k => match k with
  | 0 => ("PastureBidsLaw$Sim", "reserves", "[I", false)
  | 1 => ("PastureBidsLaw$Sim", "isIn", "[Z", false)
  | 2 => ("PastureBidsLaw$Sim", "bids", "[[I", false)
  | 3 => ("PastureBidsLaw$Sim", "sum", "I", false)
  | 4 => ("PastureBidsLaw$Sim", "many", "I", false)
  | _ => ("PastureBidsLaw$Sim", "set", "I", false)
def tyX3 : Nat → FieldType := fun k => match k with
  | 0 => .array .int
  | 1 => .array .boolean
  | 2 => .array (.array .int)
  | 3 => .int
  | 4 => .int
  | _ => .int
abbrev wsX30 : List Cond := u_ws RX3 TX3 6
theorem nmX3 : ∀ a, a < 6 → ∀ b, b < 6 → a ≠ b → (TX3 a).2.1 ≠ (TX3 b).2.1 := by decide +kernel
theorem tyX3_ok : ∀ k, k < 6 → parseFieldDescriptor (TX3 k).2.2.1 = some (tyX3 k) := by decide +kernel
abbrev cX3_init : ByteArray := prog_5_method_1_code
def yX3_init : MethodName := ⟨RX3, "<init>", "()V"⟩
abbrev cX3_reserve : ByteArray := prog_5_method_3_code
def yX3_reserve : MethodName := ⟨RX3, "reserve", "(I)I"⟩
abbrev cX3_gain : ByteArray := prog_5_method_4_code
def yX3_gain : MethodName := ⟨RX3, "gain", "(I)I"⟩
abbrev cX3_counts : ByteArray := prog_5_method_5_code
def yX3_counts : MethodName := ⟨RX3, "counts", "(I)Z"⟩
abbrev cX3_choose : ByteArray := prog_5_method_6_code
def yX3_choose : MethodName := ⟨RX3, "choose", "(IIIIII)V"⟩
abbrev cX3_sale : ByteArray := prog_5_method_7_code
def yX3_sale : MethodName := ⟨RX3, "sale", "(I)I"⟩
abbrev cX3_won : ByteArray := prog_5_method_8_code
def yX3_won : MethodName := ⟨RX3, "won", "(I)I"⟩
abbrev cX3_pays : ByteArray := prog_5_method_9_code
def yX3_pays : MethodName := ⟨RX3, "pays", "(I)I"⟩
abbrev cX3_profit : ByteArray := prog_5_method_10_code
def yX3_profit : MethodName := ⟨RX3, "profit", "(I)I"⟩
abbrev cX3_alone : ByteArray := prog_5_method_12_code
def yX3_alone : MethodName := ⟨RX3, "alone", "(I)[I"⟩
abbrev cX3_isSame : ByteArray := prog_5_method_13_code
def yX3_isSame : MethodName := ⟨RX3, "isSame", "(LPastureBids;)Z"⟩
def RX4 : String := "PastureBidsModel"
def TX4 : u_T := fun k => match k with
  | _ => ("", "", "", false)
def tyX4 : Nat → FieldType := fun k => match k with
  | _ => .int
abbrev wsX40 : List Cond := u_ws RX4 TX4 0
theorem nmX4 : ∀ a, a < 0 → ∀ b, b < 0 → a ≠ b → (TX4 a).2.1 ≠ (TX4 b).2.1 := by decide +kernel
theorem tyX4_ok : ∀ k, k < 0 → parseFieldDescriptor (TX4 k).2.2.1 = some (tyX4 k) := by decide +kernel
def RJx145de : String := "java/io/Serializable"
def TJx145de : u_T := fun k => match k with
  | _ => ("", "", "", false)
def tyJx145de : Nat → FieldType := fun k => match k with
  | _ => .int
abbrev wsJx145de0 : List Cond := u_ws RJx145de TJx145de 0
theorem nmJx145de : ∀ a, a < 0 → ∀ b, b < 0 → a ≠ b → (TJx145de a).2.1 ≠ (TJx145de b).2.1 := by decide +kernel
theorem tyJx145de_ok : ∀ k, k < 0 → parseFieldDescriptor (TJx145de k).2.2.1 = some (tyJx145de k) := by decide +kernel
def RJ6 : String := "java/lang/Integer"
def TJ6 : u_T := fun k => match k with
  | _ => ("", "", "", false)
def tyJ6 : Nat → FieldType := fun k => match k with
  | _ => .int
abbrev wsJ60 : List Cond := u_ws RJ6 TJ6 0
theorem nmJ6 : ∀ a, a < 0 → ∀ b, b < 0 → a ≠ b → (TJ6 a).2.1 ≠ (TJ6 b).2.1 := by decide +kernel
theorem tyJ6_ok : ∀ k, k < 0 → parseFieldDescriptor (TJ6 k).2.2.1 = some (tyJ6 k) := by decide +kernel
abbrev cJ6_bitCount_0f7a4 : ByteArray := prog_11_method_49_code
def yJ6_bitCount_0f7a4 : MethodName := ⟨RJ6, "bitCount", "(I)I"⟩
def RJ0 : String := "java/lang/String"
def TJ0 : u_T := fun k => match k with
  | _ => ("", "", "", false)
def tyJ0 : Nat → FieldType := fun k => match k with
  | _ => .int
abbrev wsJ00 : List Cond := u_ws RJ0 TJ0 0
theorem nmJ0 : ∀ a, a < 0 → ∀ b, b < 0 → a ≠ b → (TJ0 a).2.1 ≠ (TJ0 b).2.1 := by decide +kernel
theorem tyJ0_ok : ∀ k, k < 0 → parseFieldDescriptor (TJ0 k).2.2.1 = some (tyJ0 k) := by decide +kernel
def RJ7 : String := "java/util/Arrays"
def TJ7 : u_T := fun k => match k with
  | _ => ("", "", "", false)
def tyJ7 : Nat → FieldType := fun k => match k with
  | _ => .int
abbrev wsJ70 : List Cond := u_ws RJ7 TJ7 0
theorem nmJ7 : ∀ a, a < 0 → ∀ b, b < 0 → a ≠ b → (TJ7 a).2.1 ≠ (TJ7 b).2.1 := by decide +kernel
theorem tyJ7_ok : ∀ k, k < 0 → parseFieldDescriptor (TJ7 k).2.2.1 = some (tyJ7 k) := by decide +kernel
abbrev cJ7_fill_53178 : ByteArray := prog_15_method_103_code
def yJ7_fill_53178 : MethodName := ⟨RJ7, "fill", "([II)V"⟩
def RL : String := "PastureBidsLaw"
abbrev cL_below : ByteArray := method_2_code
def yL_below : MethodName := ⟨RL, "below", "(II)I"⟩
abbrev cL_cell : ByteArray := method_3_code
def yL_cell : MethodName := ⟨RL, "cell", "([II)I"⟩
abbrev cL_with : ByteArray := method_4_code
def yL_with : MethodName := ⟨RL, "with", "([II)[I"⟩
abbrev cL_act : ByteArray := method_5_code
def yL_act : MethodName := ⟨RL, "act", "(LPastureBids;LPastureBidsLaw$Sim;I)Z"⟩
abbrev cL_build : ByteArray := method_6_code
def yL_build : MethodName := ⟨RL, "build", "(LPastureBids;[I)LPastureBidsLaw$Sim;"⟩
abbrev cL_law : ByteArray := code
def yL_law : MethodName := ⟨RL, "law", "([I)Z"⟩
def wsX0_init : List Cond := .code yX0_init cX0_init 1 none :: ([.methodLink RX0 1 objectInit, .instanceMethod objectInit, .code objectInit ⟨#[0xb1]⟩ 1 none])
def wsX0_clear : List Cond := .code yX0_clear cX0_clear 1 none :: ([.fieldLink RX0 7 "PastureBids$BestSet" "gained" "I", .fieldLink RX0 13 "PastureBids$BestSet" "bids" "I"] ++ wsX00)
def wsJ6_bitCount_0f7a4 : List Cond := .code yJ6_bitCount_0f7a4 cJ6_bitCount_0f7a4 1 (some .int) :: ([.constant RJ6 265 (1431655765), .constant RJ6 266 (858993459), .constant RJ6 267 (252645135)])
def wsX0_isBeatenBy : List Cond := .code yX0_isBeatenBy cX0_isBeatenBy 5 (some .boolean) :: ([.fieldLink RX0 7 "PastureBids$BestSet" "gained" "I", .fieldLink RX0 13 "PastureBids$BestSet" "bids" "I", .methodLink RX0 20 yJ6_bitCount_0f7a4, .static yJ6_bitCount_0f7a4, .initialized RJ6, .code yJ6_bitCount_0f7a4 cJ6_bitCount_0f7a4 1 (some .int), .constant RJ6 265 (1431655765), .constant RJ6 266 (858993459), .constant RJ6 267 (252645135)] ++ wsX00)
def wsX0_consider : List Cond := .code yX0_consider cX0_consider 3 none :: ([.fieldLink RX0 7 "PastureBids$BestSet" "gained" "I", .fieldLink RX0 13 "PastureBids$BestSet" "bids" "I", .methodLink RX0 16 yX0_isBeatenBy, .instanceMethod yX0_isBeatenBy, .selects RX0 yX0_isBeatenBy yX0_isBeatenBy, .initialized RX0, .code yX0_isBeatenBy cX0_isBeatenBy 5 (some .boolean), .methodLink RX0 20 yJ6_bitCount_0f7a4, .static yJ6_bitCount_0f7a4, .initialized RJ6, .code yJ6_bitCount_0f7a4 cJ6_bitCount_0f7a4 1 (some .int), .constant RJ6 265 (1431655765), .constant RJ6 266 (858993459), .constant RJ6 267 (252645135)] ++ wsX00)
def wsX0_has : List Cond := .code yX0_has cX0_has 2 (some .boolean) :: ([.fieldLink RX0 13 "PastureBids$BestSet" "bids" "I"] ++ wsX00)
def wsX1_init : List Cond := .code yX1_init cX1_init 1 none :: ([.methodLink RX1 3 objectInit, .instanceMethod objectInit, .code objectInit ⟨#[0xb1]⟩ 1 none, .classLink RX1 9 RX0, .instantiable RX0 2, .initialized RX0, .fieldLink RX1 12 "PastureBids$Sale" "winners" "LPastureBids$BestSet;", .arrayClass .int, .fieldLink RX1 18 "PastureBids$Sale" "winningBids" "[I", .fieldLink RX1 22 "PastureBids$Sale" "paid" "[I", .fieldLink RX1 25 "PastureBids$Sale" "gainedWithout" "[I", .instanceMethod yX0_init, .code yX0_init cX0_init 1 none, .methodLink RX0 1 objectInit] ++ wsX00 ++ wsX10)
def wsJ7_fill_53178 : List Cond := .code yJ7_fill_53178 cJ7_fill_53178 4 none :: ([])
def wsX1_clear : List Cond := .code yX1_clear cX1_clear 1 none :: ([.fieldLink RX1 12 "PastureBids$Sale" "winners" "LPastureBids$BestSet;", .fieldLink RX1 18 "PastureBids$Sale" "winningBids" "[I", .fieldLink RX1 22 "PastureBids$Sale" "paid" "[I", .fieldLink RX1 25 "PastureBids$Sale" "gainedWithout" "[I", .instanceMethod yX0_clear, .initialized RX0, .selects RX0 yX0_clear yX0_clear, .code yX0_clear cX0_clear 1 none, .fieldLink RX0 7 "PastureBids$BestSet" "gained" "I", .fieldLink RX0 13 "PastureBids$BestSet" "bids" "I", .methodLink RX1 31 yJ7_fill_53178, .static yJ7_fill_53178, .initialized RJ7, .code yJ7_fill_53178 cJ7_fill_53178 4 none] ++ wsX10 ++ wsX00)
def wsX1_totalPaid : List Cond := .code yX1_totalPaid cX1_totalPaid 6 (some .int) :: ([.fieldLink RX1 22 "PastureBids$Sale" "paid" "[I"] ++ wsX10)
def wsX2_counts : List Cond := .code yX2_counts cX2_counts 2 (some .boolean) :: ([.fieldLink RX2 32 "PastureBids" "withdrawn" "[Z", .fieldLink RX2 13 "PastureBids" "ins" "[Z", .fieldLink RX2 17 "PastureBids" "owners" "[I", .fieldLink RX2 26 "PastureBids" "gains" "[I"] ++ wsX20)
def wsX2_seek_r1 : List Cond := [Cond.fieldLink RX2 74 "PastureBids" "bidCount" "I", Cond.instanceMethod yX0_consider, Cond.initialized RX0, Cond.selects RX0 yX0_consider yX0_consider, Cond.code yX0_consider cX0_consider 3 none, Cond.fieldLink RX0 7 "PastureBids$BestSet" "gained" "I", Cond.fieldLink RX0 13 "PastureBids$BestSet" "bids" "I", Cond.methodLink RX0 16 yX0_isBeatenBy, Cond.instanceMethod yX0_isBeatenBy, Cond.selects RX0 yX0_isBeatenBy yX0_isBeatenBy, Cond.code yX0_isBeatenBy cX0_isBeatenBy 5 (some .boolean), Cond.methodLink RX0 20 yJ6_bitCount_0f7a4, Cond.static yJ6_bitCount_0f7a4, Cond.initialized RJ6, Cond.code yJ6_bitCount_0f7a4 cJ6_bitCount_0f7a4 1 (some .int), Cond.constant RJ6 265 (1431655765), Cond.constant RJ6 266 (858993459), Cond.constant RJ6 267 (252645135), Cond.methodLink RX2 250 yX2_seekWith, Cond.instanceMethod yX2_seekWith, Cond.selects RX2 yX2_seekWith yX2_seekWith, Cond.initialized RX2, Cond.code yX2_seekWith cX2_seekWith 9 none, Cond.fieldLink RX2 17 "PastureBids" "owners" "[I"]
def wsX2_seek_r2 : List Cond := [Cond.fieldLink RX2 20 "PastureBids" "bundles" "[I", Cond.fieldLink RX2 26 "PastureBids" "gains" "[I", Cond.methodLink RX2 113 yX2_counts, Cond.instanceMethod yX2_counts, Cond.selects RX2 yX2_counts yX2_counts, Cond.code yX2_counts cX2_counts 2 (some .boolean), Cond.fieldLink RX2 32 "PastureBids" "withdrawn" "[Z", Cond.fieldLink RX2 13 "PastureBids" "ins" "[Z", Cond.methodLink RX2 243 yX2_seek, Cond.instanceMethod yX2_seek, Cond.selects RX2 yX2_seek yX2_seek]
def wsX2_seek : List Cond := .code yX2_seek cX2_seek 8 none :: ((wsX2_seek_r1 ++ wsX2_seek_r2) ++ wsX20 ++ wsX00)
def wsX2_seekWith_r1 : List Cond := [Cond.fieldLink RX2 17 "PastureBids" "owners" "[I", Cond.fieldLink RX2 20 "PastureBids" "bundles" "[I", Cond.fieldLink RX2 26 "PastureBids" "gains" "[I", Cond.methodLink RX2 113 yX2_counts, Cond.instanceMethod yX2_counts, Cond.selects RX2 yX2_counts yX2_counts, Cond.initialized RX2, Cond.code yX2_counts cX2_counts 2 (some .boolean), Cond.fieldLink RX2 32 "PastureBids" "withdrawn" "[Z", Cond.fieldLink RX2 13 "PastureBids" "ins" "[Z", Cond.methodLink RX2 243 yX2_seek, Cond.instanceMethod yX2_seek, Cond.selects RX2 yX2_seek yX2_seek, Cond.code yX2_seek cX2_seek 8 none, Cond.fieldLink RX2 74 "PastureBids" "bidCount" "I", Cond.instanceMethod yX0_consider, Cond.initialized RX0, Cond.selects RX0 yX0_consider yX0_consider, Cond.code yX0_consider cX0_consider 3 none, Cond.fieldLink RX0 7 "PastureBids$BestSet" "gained" "I", Cond.fieldLink RX0 13 "PastureBids$BestSet" "bids" "I", Cond.methodLink RX0 16 yX0_isBeatenBy, Cond.instanceMethod yX0_isBeatenBy, Cond.selects RX0 yX0_isBeatenBy yX0_isBeatenBy]
def wsX2_seekWith_r2 : List Cond := [Cond.code yX0_isBeatenBy cX0_isBeatenBy 5 (some .boolean), Cond.methodLink RX0 20 yJ6_bitCount_0f7a4, Cond.static yJ6_bitCount_0f7a4, Cond.initialized RJ6, Cond.code yJ6_bitCount_0f7a4 cJ6_bitCount_0f7a4 1 (some .int), Cond.constant RJ6 265 (1431655765), Cond.constant RJ6 266 (858993459), Cond.constant RJ6 267 (252645135), Cond.methodLink RX2 250 yX2_seekWith, Cond.instanceMethod yX2_seekWith, Cond.selects RX2 yX2_seekWith yX2_seekWith]
def wsX2_seekWith : List Cond := .code yX2_seekWith cX2_seekWith 9 none :: ((wsX2_seekWith_r1 ++ wsX2_seekWith_r2) ++ wsX20 ++ wsX00)
def wsX2_findWinners_r1 : List Cond := [Cond.instanceMethod yX0_clear, Cond.initialized RX0, Cond.selects RX0 yX0_clear yX0_clear, Cond.code yX0_clear cX0_clear 1 none, Cond.fieldLink RX0 7 "PastureBids$BestSet" "gained" "I", Cond.fieldLink RX0 13 "PastureBids$BestSet" "bids" "I", Cond.methodLink RX2 243 yX2_seek, Cond.instanceMethod yX2_seek, Cond.selects RX2 yX2_seek yX2_seek, Cond.initialized RX2, Cond.code yX2_seek cX2_seek 8 none, Cond.fieldLink RX2 74 "PastureBids" "bidCount" "I", Cond.instanceMethod yX0_consider, Cond.selects RX0 yX0_consider yX0_consider, Cond.code yX0_consider cX0_consider 3 none, Cond.methodLink RX0 16 yX0_isBeatenBy, Cond.instanceMethod yX0_isBeatenBy, Cond.selects RX0 yX0_isBeatenBy yX0_isBeatenBy, Cond.code yX0_isBeatenBy cX0_isBeatenBy 5 (some .boolean), Cond.methodLink RX0 20 yJ6_bitCount_0f7a4, Cond.static yJ6_bitCount_0f7a4, Cond.initialized RJ6, Cond.code yJ6_bitCount_0f7a4 cJ6_bitCount_0f7a4 1 (some .int), Cond.constant RJ6 265 (1431655765)]
def wsX2_findWinners_r2 : List Cond := [Cond.constant RJ6 266 (858993459), Cond.constant RJ6 267 (252645135), Cond.methodLink RX2 250 yX2_seekWith, Cond.instanceMethod yX2_seekWith, Cond.selects RX2 yX2_seekWith yX2_seekWith, Cond.code yX2_seekWith cX2_seekWith 9 none, Cond.fieldLink RX2 17 "PastureBids" "owners" "[I", Cond.fieldLink RX2 20 "PastureBids" "bundles" "[I", Cond.fieldLink RX2 26 "PastureBids" "gains" "[I", Cond.methodLink RX2 113 yX2_counts, Cond.instanceMethod yX2_counts, Cond.selects RX2 yX2_counts yX2_counts, Cond.code yX2_counts cX2_counts 2 (some .boolean), Cond.fieldLink RX2 32 "PastureBids" "withdrawn" "[Z", Cond.fieldLink RX2 13 "PastureBids" "ins" "[Z"]
def wsX2_findWinners : List Cond := .code yX2_findWinners cX2_findWinners 3 none :: ((wsX2_findWinners_r1 ++ wsX2_findWinners_r2) ++ wsX00 ++ wsX20)
def wsX2_hasField : List Cond := .code yX2_hasField cX2_hasField 2 (some .boolean) :: ([])
def wsX2_reservesOf : List Cond := .code yX2_reservesOf cX2_reservesOf 4 (some .int) :: ([.fieldLink RX2 60 "PastureBids" "fieldCount" "I", .fieldLink RX2 9 "PastureBids" "reserves" "[I", .methodLink RX2 229 yX2_hasField, .static yX2_hasField, .initialized RX2, .code yX2_hasField cX2_hasField 2 (some .boolean)] ++ wsX20)
def wsX2_award : List Cond := .code yX2_award cX2_award 5 none :: ([.fieldLink RX2 17 "PastureBids" "owners" "[I", .fieldLink RX2 26 "PastureBids" "gains" "[I", .fieldLink RX2 20 "PastureBids" "bundles" "[I", .methodLink RX2 226 yX2_reservesOf, .instanceMethod yX2_reservesOf, .selects RX2 yX2_reservesOf yX2_reservesOf, .initialized RX2, .code yX2_reservesOf cX2_reservesOf 4 (some .int), .fieldLink RX2 60 "PastureBids" "fieldCount" "I", .fieldLink RX2 9 "PastureBids" "reserves" "[I", .methodLink RX2 229 yX2_hasField, .static yX2_hasField, .code yX2_hasField cX2_hasField 2 (some .boolean)] ++ wsX20 ++ wsX10 ++ wsX00)
def wsX2_settle_r1 : List Cond := [Cond.fieldLink RX2 81 "PastureBids" "bidderCount" "I", Cond.fieldLink RX2 48 "PastureBids" "search" "LPastureBids$BestSet;", Cond.fieldLink RX2 74 "PastureBids" "bidCount" "I", Cond.instanceMethod yX1_clear, Cond.initialized RX1, Cond.selects RX1 yX1_clear yX1_clear, Cond.code yX1_clear cX1_clear 1 none, Cond.fieldLink RX1 12 "PastureBids$Sale" "winners" "LPastureBids$BestSet;", Cond.fieldLink RX1 18 "PastureBids$Sale" "winningBids" "[I", Cond.fieldLink RX1 22 "PastureBids$Sale" "paid" "[I", Cond.fieldLink RX1 25 "PastureBids$Sale" "gainedWithout" "[I", Cond.instanceMethod yX0_clear, Cond.initialized RX0, Cond.selects RX0 yX0_clear yX0_clear, Cond.code yX0_clear cX0_clear 1 none, Cond.fieldLink RX0 7 "PastureBids$BestSet" "gained" "I", Cond.fieldLink RX0 13 "PastureBids$BestSet" "bids" "I", Cond.methodLink RX1 31 yJ7_fill_53178, Cond.static yJ7_fill_53178, Cond.initialized RJ7, Cond.code yJ7_fill_53178 cJ7_fill_53178 4 none, Cond.methodLink RX2 235 yX2_findWinners, Cond.instanceMethod yX2_findWinners, Cond.selects RX2 yX2_findWinners yX2_findWinners]
def wsX2_settle_r2 : List Cond := [Cond.initialized RX2, Cond.code yX2_findWinners cX2_findWinners 3 none, Cond.methodLink RX2 243 yX2_seek, Cond.instanceMethod yX2_seek, Cond.selects RX2 yX2_seek yX2_seek, Cond.code yX2_seek cX2_seek 8 none, Cond.instanceMethod yX0_consider, Cond.selects RX0 yX0_consider yX0_consider, Cond.code yX0_consider cX0_consider 3 none, Cond.methodLink RX0 16 yX0_isBeatenBy, Cond.instanceMethod yX0_isBeatenBy, Cond.selects RX0 yX0_isBeatenBy yX0_isBeatenBy, Cond.code yX0_isBeatenBy cX0_isBeatenBy 5 (some .boolean), Cond.methodLink RX0 20 yJ6_bitCount_0f7a4, Cond.static yJ6_bitCount_0f7a4, Cond.initialized RJ6, Cond.code yJ6_bitCount_0f7a4 cJ6_bitCount_0f7a4 1 (some .int), Cond.constant RJ6 265 (1431655765), Cond.constant RJ6 266 (858993459), Cond.constant RJ6 267 (252645135), Cond.methodLink RX2 250 yX2_seekWith, Cond.instanceMethod yX2_seekWith, Cond.selects RX2 yX2_seekWith yX2_seekWith, Cond.code yX2_seekWith cX2_seekWith 9 none]
def wsX2_settle_r3 : List Cond := [Cond.fieldLink RX2 17 "PastureBids" "owners" "[I", Cond.fieldLink RX2 20 "PastureBids" "bundles" "[I", Cond.fieldLink RX2 26 "PastureBids" "gains" "[I", Cond.methodLink RX2 113 yX2_counts, Cond.instanceMethod yX2_counts, Cond.selects RX2 yX2_counts yX2_counts, Cond.code yX2_counts cX2_counts 2 (some .boolean), Cond.fieldLink RX2 32 "PastureBids" "withdrawn" "[Z", Cond.fieldLink RX2 13 "PastureBids" "ins" "[Z", Cond.instanceMethod yX0_has, Cond.selects RX0 yX0_has yX0_has, Cond.code yX0_has cX0_has 2 (some .boolean), Cond.methodLink RX2 239 yX2_award, Cond.instanceMethod yX2_award, Cond.selects RX2 yX2_award yX2_award, Cond.code yX2_award cX2_award 5 none, Cond.methodLink RX2 226 yX2_reservesOf, Cond.instanceMethod yX2_reservesOf, Cond.selects RX2 yX2_reservesOf yX2_reservesOf, Cond.code yX2_reservesOf cX2_reservesOf 4 (some .int), Cond.fieldLink RX2 60 "PastureBids" "fieldCount" "I", Cond.fieldLink RX2 9 "PastureBids" "reserves" "[I", Cond.methodLink RX2 229 yX2_hasField, Cond.static yX2_hasField]
def wsX2_settle_r4 : List Cond := [Cond.code yX2_hasField cX2_hasField 2 (some .boolean)]
def wsX2_settle : List Cond := .code yX2_settle cX2_settle 4 none :: ((wsX2_settle_r1 ++ (wsX2_settle_r2 ++ (wsX2_settle_r3 ++ wsX2_settle_r4))) ++ wsX10 ++ wsX20 ++ wsX00)
def wsX2_init_r1 : List Cond := [Cond.methodLink RX2 1 objectInit, Cond.instanceMethod objectInit, Cond.code objectInit ⟨#[0xb1]⟩ 1 none, Cond.arrayClass .int, Cond.fieldLink RX2 9 "PastureBids" "reserves" "[I", Cond.arrayClass .boolean, Cond.fieldLink RX2 13 "PastureBids" "ins" "[Z", Cond.fieldLink RX2 17 "PastureBids" "owners" "[I", Cond.fieldLink RX2 20 "PastureBids" "bundles" "[I", Cond.fieldLink RX2 23 "PastureBids" "prices" "[I", Cond.fieldLink RX2 26 "PastureBids" "gains" "[I", Cond.fieldLink RX2 29 "PastureBids" "worths" "[I", Cond.fieldLink RX2 32 "PastureBids" "withdrawn" "[Z", Cond.classLink RX2 35 RX1, Cond.instantiable RX1 4, Cond.initialized RX1, Cond.fieldLink RX2 38 "PastureBids" "sale" "LPastureBids$Sale;", Cond.fieldLink RX2 42 "PastureBids" "imagined" "LPastureBids$Sale;", Cond.classLink RX2 45 RX0, Cond.instantiable RX0 2, Cond.initialized RX0, Cond.fieldLink RX2 48 "PastureBids" "search" "LPastureBids$BestSet;", Cond.instanceMethod yX1_init, Cond.code yX1_init cX1_init 1 none]
def wsX2_init_r2 : List Cond := [Cond.methodLink RX1 3 objectInit, Cond.classLink RX1 9 RX0, Cond.fieldLink RX1 12 "PastureBids$Sale" "winners" "LPastureBids$BestSet;", Cond.fieldLink RX1 18 "PastureBids$Sale" "winningBids" "[I", Cond.fieldLink RX1 22 "PastureBids$Sale" "paid" "[I", Cond.fieldLink RX1 25 "PastureBids$Sale" "gainedWithout" "[I", Cond.instanceMethod yX0_init, Cond.code yX0_init cX0_init 1 none, Cond.methodLink RX0 1 objectInit, Cond.methodLink RX2 52 yX2_settle, Cond.instanceMethod yX2_settle, Cond.selects RX2 yX2_settle yX2_settle, Cond.initialized RX2, Cond.code yX2_settle cX2_settle 4 none, Cond.fieldLink RX2 81 "PastureBids" "bidderCount" "I", Cond.fieldLink RX2 74 "PastureBids" "bidCount" "I", Cond.instanceMethod yX1_clear, Cond.selects RX1 yX1_clear yX1_clear, Cond.code yX1_clear cX1_clear 1 none, Cond.instanceMethod yX0_clear, Cond.selects RX0 yX0_clear yX0_clear, Cond.code yX0_clear cX0_clear 1 none, Cond.fieldLink RX0 7 "PastureBids$BestSet" "gained" "I", Cond.fieldLink RX0 13 "PastureBids$BestSet" "bids" "I"]
def wsX2_init_r3 : List Cond := [Cond.methodLink RX1 31 yJ7_fill_53178, Cond.static yJ7_fill_53178, Cond.initialized RJ7, Cond.code yJ7_fill_53178 cJ7_fill_53178 4 none, Cond.methodLink RX2 235 yX2_findWinners, Cond.instanceMethod yX2_findWinners, Cond.selects RX2 yX2_findWinners yX2_findWinners, Cond.code yX2_findWinners cX2_findWinners 3 none, Cond.methodLink RX2 243 yX2_seek, Cond.instanceMethod yX2_seek, Cond.selects RX2 yX2_seek yX2_seek, Cond.code yX2_seek cX2_seek 8 none, Cond.instanceMethod yX0_consider, Cond.selects RX0 yX0_consider yX0_consider, Cond.code yX0_consider cX0_consider 3 none, Cond.methodLink RX0 16 yX0_isBeatenBy, Cond.instanceMethod yX0_isBeatenBy, Cond.selects RX0 yX0_isBeatenBy yX0_isBeatenBy, Cond.code yX0_isBeatenBy cX0_isBeatenBy 5 (some .boolean), Cond.methodLink RX0 20 yJ6_bitCount_0f7a4, Cond.static yJ6_bitCount_0f7a4, Cond.initialized RJ6, Cond.code yJ6_bitCount_0f7a4 cJ6_bitCount_0f7a4 1 (some .int), Cond.constant RJ6 265 (1431655765)]
def wsX2_init_r4 : List Cond := [Cond.constant RJ6 266 (858993459), Cond.constant RJ6 267 (252645135), Cond.methodLink RX2 250 yX2_seekWith, Cond.instanceMethod yX2_seekWith, Cond.selects RX2 yX2_seekWith yX2_seekWith, Cond.code yX2_seekWith cX2_seekWith 9 none, Cond.methodLink RX2 113 yX2_counts, Cond.instanceMethod yX2_counts, Cond.selects RX2 yX2_counts yX2_counts, Cond.code yX2_counts cX2_counts 2 (some .boolean), Cond.instanceMethod yX0_has, Cond.selects RX0 yX0_has yX0_has, Cond.code yX0_has cX0_has 2 (some .boolean), Cond.methodLink RX2 239 yX2_award, Cond.instanceMethod yX2_award, Cond.selects RX2 yX2_award yX2_award, Cond.code yX2_award cX2_award 5 none, Cond.methodLink RX2 226 yX2_reservesOf, Cond.instanceMethod yX2_reservesOf, Cond.selects RX2 yX2_reservesOf yX2_reservesOf, Cond.code yX2_reservesOf cX2_reservesOf 4 (some .int), Cond.fieldLink RX2 60 "PastureBids" "fieldCount" "I", Cond.methodLink RX2 229 yX2_hasField, Cond.static yX2_hasField]
def wsX2_init_r5 : List Cond := [Cond.code yX2_hasField cX2_hasField 2 (some .boolean)]
def wsX2_init : List Cond := .code yX2_init cX2_init 1 none :: ((wsX2_init_r1 ++ (wsX2_init_r2 ++ (wsX2_init_r3 ++ (wsX2_init_r4 ++ wsX2_init_r5)))) ++ wsX20 ++ wsX10 ++ wsX00)
def wsX2_requireReserve : List Cond := .code yX2_requireReserve cX2_requireReserve 1 none :: ([.classLink RX2 217 "java/lang/IllegalArgumentException", .initialized "java/lang/IllegalArgumentException"] ++ (vx_atS RX2 221 "java/lang/IllegalArgumentException" ["java/lang/RuntimeException", "java/lang/Exception"]).filter goodWord)
def wsX2_field : List Cond := .code yX2_field cX2_field 3 (some .int) :: ([.classLink RX2 64 "java/lang/IllegalStateException", .initialized "java/lang/IllegalStateException", .fieldLink RX2 60 "PastureBids" "fieldCount" "I", .fieldLink RX2 9 "PastureBids" "reserves" "[I", .methodLink RX2 56 yX2_requireReserve, .static yX2_requireReserve, .initialized RX2, .code yX2_requireReserve cX2_requireReserve 1 none, .classLink RX2 217 "java/lang/IllegalArgumentException", .initialized "java/lang/IllegalArgumentException"] ++ wsX20 ++ (vx_atS RX2 68 "java/lang/IllegalStateException" ["java/lang/RuntimeException", "java/lang/Exception"]).filter goodWord ++ (vx_atS RX2 221 "java/lang/IllegalArgumentException" ["java/lang/RuntimeException", "java/lang/Exception"]).filter goodWord)
def wsX2_requireField : List Cond := .code yX2_requireField cX2_requireField 2 none :: ([.classLink RX2 206 "java/lang/IndexOutOfBoundsException", .initialized "java/lang/IndexOutOfBoundsException", .fieldLink RX2 60 "PastureBids" "fieldCount" "I"] ++ wsX20 ++ (vx_atS RX2 210 "java/lang/IndexOutOfBoundsException" ["java/lang/RuntimeException", "java/lang/Exception"]).filter goodWord)
def wsX2_putPrice : List Cond := .code yX2_putPrice cX2_putPrice 3 none :: ([.fieldLink RX2 23 "PastureBids" "prices" "[I", .fieldLink RX2 26 "PastureBids" "gains" "[I", .fieldLink RX2 20 "PastureBids" "bundles" "[I", .methodLink RX2 226 yX2_reservesOf, .instanceMethod yX2_reservesOf, .selects RX2 yX2_reservesOf yX2_reservesOf, .initialized RX2, .code yX2_reservesOf cX2_reservesOf 4 (some .int), .fieldLink RX2 60 "PastureBids" "fieldCount" "I", .fieldLink RX2 9 "PastureBids" "reserves" "[I", .methodLink RX2 229 yX2_hasField, .static yX2_hasField, .code yX2_hasField cX2_hasField 2 (some .boolean)] ++ wsX20)
def wsX2_setReserve_r1 : List Cond := [Cond.fieldLink RX2 9 "PastureBids" "reserves" "[I", Cond.fieldLink RX2 74 "PastureBids" "bidCount" "I", Cond.fieldLink RX2 23 "PastureBids" "prices" "[I", Cond.fieldLink RX2 38 "PastureBids" "sale" "LPastureBids$Sale;", Cond.methodLink RX2 71 yX2_requireField, Cond.instanceMethod yX2_requireField, Cond.selects RX2 yX2_requireField yX2_requireField, Cond.initialized RX2, Cond.code yX2_requireField cX2_requireField 2 none, Cond.classLink RX2 206 "java/lang/IndexOutOfBoundsException", Cond.initialized "java/lang/IndexOutOfBoundsException", Cond.fieldLink RX2 60 "PastureBids" "fieldCount" "I", Cond.methodLink RX2 56 yX2_requireReserve, Cond.static yX2_requireReserve, Cond.code yX2_requireReserve cX2_requireReserve 1 none, Cond.classLink RX2 217 "java/lang/IllegalArgumentException", Cond.initialized "java/lang/IllegalArgumentException", Cond.methodLink RX2 77 yX2_putPrice, Cond.instanceMethod yX2_putPrice, Cond.selects RX2 yX2_putPrice yX2_putPrice, Cond.code yX2_putPrice cX2_putPrice 3 none, Cond.fieldLink RX2 26 "PastureBids" "gains" "[I", Cond.fieldLink RX2 20 "PastureBids" "bundles" "[I", Cond.methodLink RX2 226 yX2_reservesOf]
def wsX2_setReserve_r2 : List Cond := [Cond.instanceMethod yX2_reservesOf, Cond.selects RX2 yX2_reservesOf yX2_reservesOf, Cond.code yX2_reservesOf cX2_reservesOf 4 (some .int), Cond.methodLink RX2 229 yX2_hasField, Cond.static yX2_hasField, Cond.code yX2_hasField cX2_hasField 2 (some .boolean), Cond.methodLink RX2 52 yX2_settle, Cond.instanceMethod yX2_settle, Cond.selects RX2 yX2_settle yX2_settle, Cond.code yX2_settle cX2_settle 4 none, Cond.fieldLink RX2 81 "PastureBids" "bidderCount" "I", Cond.fieldLink RX2 48 "PastureBids" "search" "LPastureBids$BestSet;", Cond.instanceMethod yX1_clear, Cond.initialized RX1, Cond.selects RX1 yX1_clear yX1_clear, Cond.code yX1_clear cX1_clear 1 none, Cond.fieldLink RX1 12 "PastureBids$Sale" "winners" "LPastureBids$BestSet;", Cond.fieldLink RX1 18 "PastureBids$Sale" "winningBids" "[I", Cond.fieldLink RX1 22 "PastureBids$Sale" "paid" "[I", Cond.fieldLink RX1 25 "PastureBids$Sale" "gainedWithout" "[I", Cond.instanceMethod yX0_clear, Cond.initialized RX0, Cond.selects RX0 yX0_clear yX0_clear, Cond.code yX0_clear cX0_clear 1 none]
def wsX2_setReserve_r3 : List Cond := [Cond.fieldLink RX0 7 "PastureBids$BestSet" "gained" "I", Cond.fieldLink RX0 13 "PastureBids$BestSet" "bids" "I", Cond.methodLink RX1 31 yJ7_fill_53178, Cond.static yJ7_fill_53178, Cond.initialized RJ7, Cond.code yJ7_fill_53178 cJ7_fill_53178 4 none, Cond.methodLink RX2 235 yX2_findWinners, Cond.instanceMethod yX2_findWinners, Cond.selects RX2 yX2_findWinners yX2_findWinners, Cond.code yX2_findWinners cX2_findWinners 3 none, Cond.methodLink RX2 243 yX2_seek, Cond.instanceMethod yX2_seek, Cond.selects RX2 yX2_seek yX2_seek, Cond.code yX2_seek cX2_seek 8 none, Cond.instanceMethod yX0_consider, Cond.selects RX0 yX0_consider yX0_consider, Cond.code yX0_consider cX0_consider 3 none, Cond.methodLink RX0 16 yX0_isBeatenBy, Cond.instanceMethod yX0_isBeatenBy, Cond.selects RX0 yX0_isBeatenBy yX0_isBeatenBy, Cond.code yX0_isBeatenBy cX0_isBeatenBy 5 (some .boolean), Cond.methodLink RX0 20 yJ6_bitCount_0f7a4, Cond.static yJ6_bitCount_0f7a4, Cond.initialized RJ6]
def wsX2_setReserve_r4 : List Cond := [Cond.code yJ6_bitCount_0f7a4 cJ6_bitCount_0f7a4 1 (some .int), Cond.constant RJ6 265 (1431655765), Cond.constant RJ6 266 (858993459), Cond.constant RJ6 267 (252645135), Cond.methodLink RX2 250 yX2_seekWith, Cond.instanceMethod yX2_seekWith, Cond.selects RX2 yX2_seekWith yX2_seekWith, Cond.code yX2_seekWith cX2_seekWith 9 none, Cond.fieldLink RX2 17 "PastureBids" "owners" "[I", Cond.methodLink RX2 113 yX2_counts, Cond.instanceMethod yX2_counts, Cond.selects RX2 yX2_counts yX2_counts, Cond.code yX2_counts cX2_counts 2 (some .boolean), Cond.fieldLink RX2 32 "PastureBids" "withdrawn" "[Z", Cond.fieldLink RX2 13 "PastureBids" "ins" "[Z", Cond.instanceMethod yX0_has, Cond.selects RX0 yX0_has yX0_has, Cond.code yX0_has cX0_has 2 (some .boolean), Cond.methodLink RX2 239 yX2_award, Cond.instanceMethod yX2_award, Cond.selects RX2 yX2_award yX2_award, Cond.code yX2_award cX2_award 5 none]
def wsX2_setReserve : List Cond := .code yX2_setReserve cX2_setReserve 5 (some .int) :: ((wsX2_setReserve_r1 ++ (wsX2_setReserve_r2 ++ (wsX2_setReserve_r3 ++ wsX2_setReserve_r4))) ++ wsX20 ++ wsX10 ++ wsX00 ++ (vx_atS RX2 210 "java/lang/IndexOutOfBoundsException" ["java/lang/RuntimeException", "java/lang/Exception"]).filter goodWord ++ (vx_atS RX2 221 "java/lang/IllegalArgumentException" ["java/lang/RuntimeException", "java/lang/Exception"]).filter goodWord)
def wsX2_join_r1 : List Cond := [Cond.classLink RX2 64 "java/lang/IllegalStateException", Cond.initialized "java/lang/IllegalStateException", Cond.fieldLink RX2 81 "PastureBids" "bidderCount" "I", Cond.fieldLink RX2 13 "PastureBids" "ins" "[Z", Cond.fieldLink RX2 38 "PastureBids" "sale" "LPastureBids$Sale;", Cond.methodLink RX2 52 yX2_settle, Cond.instanceMethod yX2_settle, Cond.selects RX2 yX2_settle yX2_settle, Cond.initialized RX2, Cond.code yX2_settle cX2_settle 4 none, Cond.fieldLink RX2 48 "PastureBids" "search" "LPastureBids$BestSet;", Cond.fieldLink RX2 74 "PastureBids" "bidCount" "I", Cond.instanceMethod yX1_clear, Cond.initialized RX1, Cond.selects RX1 yX1_clear yX1_clear, Cond.code yX1_clear cX1_clear 1 none, Cond.fieldLink RX1 12 "PastureBids$Sale" "winners" "LPastureBids$BestSet;", Cond.fieldLink RX1 18 "PastureBids$Sale" "winningBids" "[I", Cond.fieldLink RX1 22 "PastureBids$Sale" "paid" "[I", Cond.fieldLink RX1 25 "PastureBids$Sale" "gainedWithout" "[I", Cond.instanceMethod yX0_clear, Cond.initialized RX0, Cond.selects RX0 yX0_clear yX0_clear, Cond.code yX0_clear cX0_clear 1 none]
def wsX2_join_r2 : List Cond := [Cond.fieldLink RX0 7 "PastureBids$BestSet" "gained" "I", Cond.fieldLink RX0 13 "PastureBids$BestSet" "bids" "I", Cond.methodLink RX1 31 yJ7_fill_53178, Cond.static yJ7_fill_53178, Cond.initialized RJ7, Cond.code yJ7_fill_53178 cJ7_fill_53178 4 none, Cond.methodLink RX2 235 yX2_findWinners, Cond.instanceMethod yX2_findWinners, Cond.selects RX2 yX2_findWinners yX2_findWinners, Cond.code yX2_findWinners cX2_findWinners 3 none, Cond.methodLink RX2 243 yX2_seek, Cond.instanceMethod yX2_seek, Cond.selects RX2 yX2_seek yX2_seek, Cond.code yX2_seek cX2_seek 8 none, Cond.instanceMethod yX0_consider, Cond.selects RX0 yX0_consider yX0_consider, Cond.code yX0_consider cX0_consider 3 none, Cond.methodLink RX0 16 yX0_isBeatenBy, Cond.instanceMethod yX0_isBeatenBy, Cond.selects RX0 yX0_isBeatenBy yX0_isBeatenBy, Cond.code yX0_isBeatenBy cX0_isBeatenBy 5 (some .boolean), Cond.methodLink RX0 20 yJ6_bitCount_0f7a4, Cond.static yJ6_bitCount_0f7a4, Cond.initialized RJ6]
def wsX2_join_r3 : List Cond := [Cond.code yJ6_bitCount_0f7a4 cJ6_bitCount_0f7a4 1 (some .int), Cond.constant RJ6 265 (1431655765), Cond.constant RJ6 266 (858993459), Cond.constant RJ6 267 (252645135), Cond.methodLink RX2 250 yX2_seekWith, Cond.instanceMethod yX2_seekWith, Cond.selects RX2 yX2_seekWith yX2_seekWith, Cond.code yX2_seekWith cX2_seekWith 9 none, Cond.fieldLink RX2 17 "PastureBids" "owners" "[I", Cond.fieldLink RX2 20 "PastureBids" "bundles" "[I", Cond.fieldLink RX2 26 "PastureBids" "gains" "[I", Cond.methodLink RX2 113 yX2_counts, Cond.instanceMethod yX2_counts, Cond.selects RX2 yX2_counts yX2_counts, Cond.code yX2_counts cX2_counts 2 (some .boolean), Cond.fieldLink RX2 32 "PastureBids" "withdrawn" "[Z", Cond.instanceMethod yX0_has, Cond.selects RX0 yX0_has yX0_has, Cond.code yX0_has cX0_has 2 (some .boolean), Cond.methodLink RX2 239 yX2_award, Cond.instanceMethod yX2_award, Cond.selects RX2 yX2_award yX2_award, Cond.code yX2_award cX2_award 5 none, Cond.methodLink RX2 226 yX2_reservesOf]
def wsX2_join_r4 : List Cond := [Cond.instanceMethod yX2_reservesOf, Cond.selects RX2 yX2_reservesOf yX2_reservesOf, Cond.code yX2_reservesOf cX2_reservesOf 4 (some .int), Cond.fieldLink RX2 60 "PastureBids" "fieldCount" "I", Cond.fieldLink RX2 9 "PastureBids" "reserves" "[I", Cond.methodLink RX2 229 yX2_hasField, Cond.static yX2_hasField, Cond.code yX2_hasField cX2_hasField 2 (some .boolean)]
def wsX2_join : List Cond := .code yX2_join cX2_join 2 (some .int) :: ((wsX2_join_r1 ++ (wsX2_join_r2 ++ (wsX2_join_r3 ++ wsX2_join_r4))) ++ wsX20 ++ wsX10 ++ wsX00 ++ (vx_atS RX2 68 "java/lang/IllegalStateException" ["java/lang/RuntimeException", "java/lang/Exception"]).filter goodWord)
def wsX2_requireBidder : List Cond := .code yX2_requireBidder cX2_requireBidder 2 none :: ([.classLink RX2 206 "java/lang/IndexOutOfBoundsException", .initialized "java/lang/IndexOutOfBoundsException", .fieldLink RX2 81 "PastureBids" "bidderCount" "I"] ++ wsX20 ++ (vx_atS RX2 210 "java/lang/IndexOutOfBoundsException" ["java/lang/RuntimeException", "java/lang/Exception"]).filter goodWord)
def wsX2_setIn_r1 : List Cond := [Cond.fieldLink RX2 13 "PastureBids" "ins" "[Z", Cond.fieldLink RX2 38 "PastureBids" "sale" "LPastureBids$Sale;", Cond.methodLink RX2 86 yX2_requireBidder, Cond.instanceMethod yX2_requireBidder, Cond.selects RX2 yX2_requireBidder yX2_requireBidder, Cond.initialized RX2, Cond.code yX2_requireBidder cX2_requireBidder 2 none, Cond.classLink RX2 206 "java/lang/IndexOutOfBoundsException", Cond.initialized "java/lang/IndexOutOfBoundsException", Cond.fieldLink RX2 81 "PastureBids" "bidderCount" "I", Cond.methodLink RX2 52 yX2_settle, Cond.instanceMethod yX2_settle, Cond.selects RX2 yX2_settle yX2_settle, Cond.code yX2_settle cX2_settle 4 none, Cond.fieldLink RX2 48 "PastureBids" "search" "LPastureBids$BestSet;", Cond.fieldLink RX2 74 "PastureBids" "bidCount" "I", Cond.instanceMethod yX1_clear, Cond.initialized RX1, Cond.selects RX1 yX1_clear yX1_clear, Cond.code yX1_clear cX1_clear 1 none, Cond.fieldLink RX1 12 "PastureBids$Sale" "winners" "LPastureBids$BestSet;", Cond.fieldLink RX1 18 "PastureBids$Sale" "winningBids" "[I", Cond.fieldLink RX1 22 "PastureBids$Sale" "paid" "[I", Cond.fieldLink RX1 25 "PastureBids$Sale" "gainedWithout" "[I"]
def wsX2_setIn_r2 : List Cond := [Cond.instanceMethod yX0_clear, Cond.initialized RX0, Cond.selects RX0 yX0_clear yX0_clear, Cond.code yX0_clear cX0_clear 1 none, Cond.fieldLink RX0 7 "PastureBids$BestSet" "gained" "I", Cond.fieldLink RX0 13 "PastureBids$BestSet" "bids" "I", Cond.methodLink RX1 31 yJ7_fill_53178, Cond.static yJ7_fill_53178, Cond.initialized RJ7, Cond.code yJ7_fill_53178 cJ7_fill_53178 4 none, Cond.methodLink RX2 235 yX2_findWinners, Cond.instanceMethod yX2_findWinners, Cond.selects RX2 yX2_findWinners yX2_findWinners, Cond.code yX2_findWinners cX2_findWinners 3 none, Cond.methodLink RX2 243 yX2_seek, Cond.instanceMethod yX2_seek, Cond.selects RX2 yX2_seek yX2_seek, Cond.code yX2_seek cX2_seek 8 none, Cond.instanceMethod yX0_consider, Cond.selects RX0 yX0_consider yX0_consider, Cond.code yX0_consider cX0_consider 3 none, Cond.methodLink RX0 16 yX0_isBeatenBy, Cond.instanceMethod yX0_isBeatenBy, Cond.selects RX0 yX0_isBeatenBy yX0_isBeatenBy]
def wsX2_setIn_r3 : List Cond := [Cond.code yX0_isBeatenBy cX0_isBeatenBy 5 (some .boolean), Cond.methodLink RX0 20 yJ6_bitCount_0f7a4, Cond.static yJ6_bitCount_0f7a4, Cond.initialized RJ6, Cond.code yJ6_bitCount_0f7a4 cJ6_bitCount_0f7a4 1 (some .int), Cond.constant RJ6 265 (1431655765), Cond.constant RJ6 266 (858993459), Cond.constant RJ6 267 (252645135), Cond.methodLink RX2 250 yX2_seekWith, Cond.instanceMethod yX2_seekWith, Cond.selects RX2 yX2_seekWith yX2_seekWith, Cond.code yX2_seekWith cX2_seekWith 9 none, Cond.fieldLink RX2 17 "PastureBids" "owners" "[I", Cond.fieldLink RX2 20 "PastureBids" "bundles" "[I", Cond.fieldLink RX2 26 "PastureBids" "gains" "[I", Cond.methodLink RX2 113 yX2_counts, Cond.instanceMethod yX2_counts, Cond.selects RX2 yX2_counts yX2_counts, Cond.code yX2_counts cX2_counts 2 (some .boolean), Cond.fieldLink RX2 32 "PastureBids" "withdrawn" "[Z", Cond.instanceMethod yX0_has, Cond.selects RX0 yX0_has yX0_has, Cond.code yX0_has cX0_has 2 (some .boolean), Cond.methodLink RX2 239 yX2_award]
def wsX2_setIn_r4 : List Cond := [Cond.instanceMethod yX2_award, Cond.selects RX2 yX2_award yX2_award, Cond.code yX2_award cX2_award 5 none, Cond.methodLink RX2 226 yX2_reservesOf, Cond.instanceMethod yX2_reservesOf, Cond.selects RX2 yX2_reservesOf yX2_reservesOf, Cond.code yX2_reservesOf cX2_reservesOf 4 (some .int), Cond.fieldLink RX2 60 "PastureBids" "fieldCount" "I", Cond.fieldLink RX2 9 "PastureBids" "reserves" "[I", Cond.methodLink RX2 229 yX2_hasField, Cond.static yX2_hasField, Cond.code yX2_hasField cX2_hasField 2 (some .boolean)]
def wsX2_setIn : List Cond := .code yX2_setIn cX2_setIn 4 (some .boolean) :: ((wsX2_setIn_r1 ++ (wsX2_setIn_r2 ++ (wsX2_setIn_r3 ++ wsX2_setIn_r4))) ++ wsX20 ++ wsX10 ++ wsX00 ++ (vx_atS RX2 210 "java/lang/IndexOutOfBoundsException" ["java/lang/RuntimeException", "java/lang/Exception"]).filter goodWord)
def wsX2_requireBundle : List Cond := .code yX2_requireBundle cX2_requireBundle 2 none :: ([.classLink RX2 217 "java/lang/IllegalArgumentException", .initialized "java/lang/IllegalArgumentException", .fieldLink RX2 60 "PastureBids" "fieldCount" "I"] ++ wsX20 ++ (vx_atS RX2 221 "java/lang/IllegalArgumentException" ["java/lang/RuntimeException", "java/lang/Exception"]).filter goodWord)
def wsX2_requireAmount : List Cond := .code yX2_requireAmount cX2_requireAmount 1 none :: ([.classLink RX2 217 "java/lang/IllegalArgumentException", .initialized "java/lang/IllegalArgumentException"] ++ (vx_atS RX2 221 "java/lang/IllegalArgumentException" ["java/lang/RuntimeException", "java/lang/Exception"]).filter goodWord)
def wsX2_bid_r1 : List Cond := [Cond.classLink RX2 64 "java/lang/IllegalStateException", Cond.initialized "java/lang/IllegalStateException", Cond.fieldLink RX2 74 "PastureBids" "bidCount" "I", Cond.fieldLink RX2 17 "PastureBids" "owners" "[I", Cond.fieldLink RX2 20 "PastureBids" "bundles" "[I", Cond.fieldLink RX2 29 "PastureBids" "worths" "[I", Cond.fieldLink RX2 38 "PastureBids" "sale" "LPastureBids$Sale;", Cond.methodLink RX2 86 yX2_requireBidder, Cond.instanceMethod yX2_requireBidder, Cond.selects RX2 yX2_requireBidder yX2_requireBidder, Cond.initialized RX2, Cond.code yX2_requireBidder cX2_requireBidder 2 none, Cond.classLink RX2 206 "java/lang/IndexOutOfBoundsException", Cond.initialized "java/lang/IndexOutOfBoundsException", Cond.fieldLink RX2 81 "PastureBids" "bidderCount" "I", Cond.methodLink RX2 89 yX2_requireBundle, Cond.instanceMethod yX2_requireBundle, Cond.selects RX2 yX2_requireBundle yX2_requireBundle, Cond.code yX2_requireBundle cX2_requireBundle 2 none, Cond.classLink RX2 217 "java/lang/IllegalArgumentException", Cond.initialized "java/lang/IllegalArgumentException", Cond.fieldLink RX2 60 "PastureBids" "fieldCount" "I", Cond.methodLink RX2 92 yX2_requireAmount, Cond.static yX2_requireAmount]
def wsX2_bid_r2 : List Cond := [Cond.code yX2_requireAmount cX2_requireAmount 1 none, Cond.methodLink RX2 77 yX2_putPrice, Cond.instanceMethod yX2_putPrice, Cond.selects RX2 yX2_putPrice yX2_putPrice, Cond.code yX2_putPrice cX2_putPrice 3 none, Cond.fieldLink RX2 23 "PastureBids" "prices" "[I", Cond.fieldLink RX2 26 "PastureBids" "gains" "[I", Cond.methodLink RX2 226 yX2_reservesOf, Cond.instanceMethod yX2_reservesOf, Cond.selects RX2 yX2_reservesOf yX2_reservesOf, Cond.code yX2_reservesOf cX2_reservesOf 4 (some .int), Cond.fieldLink RX2 9 "PastureBids" "reserves" "[I", Cond.methodLink RX2 229 yX2_hasField, Cond.static yX2_hasField, Cond.code yX2_hasField cX2_hasField 2 (some .boolean), Cond.methodLink RX2 52 yX2_settle, Cond.instanceMethod yX2_settle, Cond.selects RX2 yX2_settle yX2_settle, Cond.code yX2_settle cX2_settle 4 none, Cond.fieldLink RX2 48 "PastureBids" "search" "LPastureBids$BestSet;", Cond.instanceMethod yX1_clear, Cond.initialized RX1, Cond.selects RX1 yX1_clear yX1_clear, Cond.code yX1_clear cX1_clear 1 none]
def wsX2_bid_r3 : List Cond := [Cond.fieldLink RX1 12 "PastureBids$Sale" "winners" "LPastureBids$BestSet;", Cond.fieldLink RX1 18 "PastureBids$Sale" "winningBids" "[I", Cond.fieldLink RX1 22 "PastureBids$Sale" "paid" "[I", Cond.fieldLink RX1 25 "PastureBids$Sale" "gainedWithout" "[I", Cond.instanceMethod yX0_clear, Cond.initialized RX0, Cond.selects RX0 yX0_clear yX0_clear, Cond.code yX0_clear cX0_clear 1 none, Cond.fieldLink RX0 7 "PastureBids$BestSet" "gained" "I", Cond.fieldLink RX0 13 "PastureBids$BestSet" "bids" "I", Cond.methodLink RX1 31 yJ7_fill_53178, Cond.static yJ7_fill_53178, Cond.initialized RJ7, Cond.code yJ7_fill_53178 cJ7_fill_53178 4 none, Cond.methodLink RX2 235 yX2_findWinners, Cond.instanceMethod yX2_findWinners, Cond.selects RX2 yX2_findWinners yX2_findWinners, Cond.code yX2_findWinners cX2_findWinners 3 none, Cond.methodLink RX2 243 yX2_seek, Cond.instanceMethod yX2_seek, Cond.selects RX2 yX2_seek yX2_seek, Cond.code yX2_seek cX2_seek 8 none, Cond.instanceMethod yX0_consider, Cond.selects RX0 yX0_consider yX0_consider]
def wsX2_bid_r4 : List Cond := [Cond.code yX0_consider cX0_consider 3 none, Cond.methodLink RX0 16 yX0_isBeatenBy, Cond.instanceMethod yX0_isBeatenBy, Cond.selects RX0 yX0_isBeatenBy yX0_isBeatenBy, Cond.code yX0_isBeatenBy cX0_isBeatenBy 5 (some .boolean), Cond.methodLink RX0 20 yJ6_bitCount_0f7a4, Cond.static yJ6_bitCount_0f7a4, Cond.initialized RJ6, Cond.code yJ6_bitCount_0f7a4 cJ6_bitCount_0f7a4 1 (some .int), Cond.constant RJ6 265 (1431655765), Cond.constant RJ6 266 (858993459), Cond.constant RJ6 267 (252645135), Cond.methodLink RX2 250 yX2_seekWith, Cond.instanceMethod yX2_seekWith, Cond.selects RX2 yX2_seekWith yX2_seekWith, Cond.code yX2_seekWith cX2_seekWith 9 none, Cond.methodLink RX2 113 yX2_counts, Cond.instanceMethod yX2_counts, Cond.selects RX2 yX2_counts yX2_counts, Cond.code yX2_counts cX2_counts 2 (some .boolean), Cond.fieldLink RX2 32 "PastureBids" "withdrawn" "[Z", Cond.fieldLink RX2 13 "PastureBids" "ins" "[Z", Cond.instanceMethod yX0_has, Cond.selects RX0 yX0_has yX0_has]
def wsX2_bid_r5 : List Cond := [Cond.code yX0_has cX0_has 2 (some .boolean), Cond.methodLink RX2 239 yX2_award, Cond.instanceMethod yX2_award, Cond.selects RX2 yX2_award yX2_award, Cond.code yX2_award cX2_award 5 none]
def wsX2_bid : List Cond := .code yX2_bid cX2_bid 5 (some .int) :: ((wsX2_bid_r1 ++ (wsX2_bid_r2 ++ (wsX2_bid_r3 ++ (wsX2_bid_r4 ++ wsX2_bid_r5)))) ++ wsX20 ++ wsX10 ++ wsX00 ++ (vx_atS RX2 68 "java/lang/IllegalStateException" ["java/lang/RuntimeException", "java/lang/Exception"]).filter goodWord ++ (vx_atS RX2 210 "java/lang/IndexOutOfBoundsException" ["java/lang/RuntimeException", "java/lang/Exception"]).filter goodWord ++ (vx_atS RX2 221 "java/lang/IllegalArgumentException" ["java/lang/RuntimeException", "java/lang/Exception"]).filter goodWord)
def wsX2_requireBid : List Cond := .code yX2_requireBid cX2_requireBid 2 none :: ([.classLink RX2 206 "java/lang/IndexOutOfBoundsException", .initialized "java/lang/IndexOutOfBoundsException", .fieldLink RX2 74 "PastureBids" "bidCount" "I"] ++ wsX20 ++ (vx_atS RX2 210 "java/lang/IndexOutOfBoundsException" ["java/lang/RuntimeException", "java/lang/Exception"]).filter goodWord)
def wsX2_setPrice_r1 : List Cond := [Cond.fieldLink RX2 23 "PastureBids" "prices" "[I", Cond.fieldLink RX2 38 "PastureBids" "sale" "LPastureBids$Sale;", Cond.methodLink RX2 97 yX2_requireBid, Cond.instanceMethod yX2_requireBid, Cond.selects RX2 yX2_requireBid yX2_requireBid, Cond.initialized RX2, Cond.code yX2_requireBid cX2_requireBid 2 none, Cond.classLink RX2 206 "java/lang/IndexOutOfBoundsException", Cond.initialized "java/lang/IndexOutOfBoundsException", Cond.fieldLink RX2 74 "PastureBids" "bidCount" "I", Cond.methodLink RX2 92 yX2_requireAmount, Cond.static yX2_requireAmount, Cond.code yX2_requireAmount cX2_requireAmount 1 none, Cond.classLink RX2 217 "java/lang/IllegalArgumentException", Cond.initialized "java/lang/IllegalArgumentException", Cond.methodLink RX2 77 yX2_putPrice, Cond.instanceMethod yX2_putPrice, Cond.selects RX2 yX2_putPrice yX2_putPrice, Cond.code yX2_putPrice cX2_putPrice 3 none, Cond.fieldLink RX2 26 "PastureBids" "gains" "[I", Cond.fieldLink RX2 20 "PastureBids" "bundles" "[I", Cond.methodLink RX2 226 yX2_reservesOf, Cond.instanceMethod yX2_reservesOf, Cond.selects RX2 yX2_reservesOf yX2_reservesOf]
def wsX2_setPrice_r2 : List Cond := [Cond.code yX2_reservesOf cX2_reservesOf 4 (some .int), Cond.fieldLink RX2 60 "PastureBids" "fieldCount" "I", Cond.fieldLink RX2 9 "PastureBids" "reserves" "[I", Cond.methodLink RX2 229 yX2_hasField, Cond.static yX2_hasField, Cond.code yX2_hasField cX2_hasField 2 (some .boolean), Cond.methodLink RX2 52 yX2_settle, Cond.instanceMethod yX2_settle, Cond.selects RX2 yX2_settle yX2_settle, Cond.code yX2_settle cX2_settle 4 none, Cond.fieldLink RX2 81 "PastureBids" "bidderCount" "I", Cond.fieldLink RX2 48 "PastureBids" "search" "LPastureBids$BestSet;", Cond.instanceMethod yX1_clear, Cond.initialized RX1, Cond.selects RX1 yX1_clear yX1_clear, Cond.code yX1_clear cX1_clear 1 none, Cond.fieldLink RX1 12 "PastureBids$Sale" "winners" "LPastureBids$BestSet;", Cond.fieldLink RX1 18 "PastureBids$Sale" "winningBids" "[I", Cond.fieldLink RX1 22 "PastureBids$Sale" "paid" "[I", Cond.fieldLink RX1 25 "PastureBids$Sale" "gainedWithout" "[I", Cond.instanceMethod yX0_clear, Cond.initialized RX0, Cond.selects RX0 yX0_clear yX0_clear, Cond.code yX0_clear cX0_clear 1 none]
def wsX2_setPrice_r3 : List Cond := [Cond.fieldLink RX0 7 "PastureBids$BestSet" "gained" "I", Cond.fieldLink RX0 13 "PastureBids$BestSet" "bids" "I", Cond.methodLink RX1 31 yJ7_fill_53178, Cond.static yJ7_fill_53178, Cond.initialized RJ7, Cond.code yJ7_fill_53178 cJ7_fill_53178 4 none, Cond.methodLink RX2 235 yX2_findWinners, Cond.instanceMethod yX2_findWinners, Cond.selects RX2 yX2_findWinners yX2_findWinners, Cond.code yX2_findWinners cX2_findWinners 3 none, Cond.methodLink RX2 243 yX2_seek, Cond.instanceMethod yX2_seek, Cond.selects RX2 yX2_seek yX2_seek, Cond.code yX2_seek cX2_seek 8 none, Cond.instanceMethod yX0_consider, Cond.selects RX0 yX0_consider yX0_consider, Cond.code yX0_consider cX0_consider 3 none, Cond.methodLink RX0 16 yX0_isBeatenBy, Cond.instanceMethod yX0_isBeatenBy, Cond.selects RX0 yX0_isBeatenBy yX0_isBeatenBy, Cond.code yX0_isBeatenBy cX0_isBeatenBy 5 (some .boolean), Cond.methodLink RX0 20 yJ6_bitCount_0f7a4, Cond.static yJ6_bitCount_0f7a4, Cond.initialized RJ6]
def wsX2_setPrice_r4 : List Cond := [Cond.code yJ6_bitCount_0f7a4 cJ6_bitCount_0f7a4 1 (some .int), Cond.constant RJ6 265 (1431655765), Cond.constant RJ6 266 (858993459), Cond.constant RJ6 267 (252645135), Cond.methodLink RX2 250 yX2_seekWith, Cond.instanceMethod yX2_seekWith, Cond.selects RX2 yX2_seekWith yX2_seekWith, Cond.code yX2_seekWith cX2_seekWith 9 none, Cond.fieldLink RX2 17 "PastureBids" "owners" "[I", Cond.methodLink RX2 113 yX2_counts, Cond.instanceMethod yX2_counts, Cond.selects RX2 yX2_counts yX2_counts, Cond.code yX2_counts cX2_counts 2 (some .boolean), Cond.fieldLink RX2 32 "PastureBids" "withdrawn" "[Z", Cond.fieldLink RX2 13 "PastureBids" "ins" "[Z", Cond.instanceMethod yX0_has, Cond.selects RX0 yX0_has yX0_has, Cond.code yX0_has cX0_has 2 (some .boolean), Cond.methodLink RX2 239 yX2_award, Cond.instanceMethod yX2_award, Cond.selects RX2 yX2_award yX2_award, Cond.code yX2_award cX2_award 5 none]
def wsX2_setPrice : List Cond := .code yX2_setPrice cX2_setPrice 4 (some .int) :: ((wsX2_setPrice_r1 ++ (wsX2_setPrice_r2 ++ (wsX2_setPrice_r3 ++ wsX2_setPrice_r4))) ++ wsX20 ++ wsX10 ++ wsX00 ++ (vx_atS RX2 210 "java/lang/IndexOutOfBoundsException" ["java/lang/RuntimeException", "java/lang/Exception"]).filter goodWord ++ (vx_atS RX2 221 "java/lang/IllegalArgumentException" ["java/lang/RuntimeException", "java/lang/Exception"]).filter goodWord)
def wsX2_setWorth : List Cond := .code yX2_setWorth cX2_setWorth 4 (some .int) :: ([.fieldLink RX2 29 "PastureBids" "worths" "[I", .methodLink RX2 97 yX2_requireBid, .instanceMethod yX2_requireBid, .selects RX2 yX2_requireBid yX2_requireBid, .initialized RX2, .code yX2_requireBid cX2_requireBid 2 none, .classLink RX2 206 "java/lang/IndexOutOfBoundsException", .initialized "java/lang/IndexOutOfBoundsException", .fieldLink RX2 74 "PastureBids" "bidCount" "I", .methodLink RX2 92 yX2_requireAmount, .static yX2_requireAmount, .code yX2_requireAmount cX2_requireAmount 1 none, .classLink RX2 217 "java/lang/IllegalArgumentException", .initialized "java/lang/IllegalArgumentException"] ++ wsX20 ++ (vx_atS RX2 210 "java/lang/IndexOutOfBoundsException" ["java/lang/RuntimeException", "java/lang/Exception"]).filter goodWord ++ (vx_atS RX2 221 "java/lang/IllegalArgumentException" ["java/lang/RuntimeException", "java/lang/Exception"]).filter goodWord)
def wsX2_bidsLeftOf : List Cond := .code yX2_bidsLeftOf cX2_bidsLeftOf 4 (some .int) :: ([.fieldLink RX2 74 "PastureBids" "bidCount" "I", .fieldLink RX2 17 "PastureBids" "owners" "[I", .fieldLink RX2 32 "PastureBids" "withdrawn" "[Z"] ++ wsX20)
def wsX2_bidsLeft : List Cond := .code yX2_bidsLeft cX2_bidsLeft 3 (some .int) :: ([.fieldLink RX2 81 "PastureBids" "bidderCount" "I", .methodLink RX2 123 yX2_bidsLeftOf, .instanceMethod yX2_bidsLeftOf, .selects RX2 yX2_bidsLeftOf yX2_bidsLeftOf, .initialized RX2, .code yX2_bidsLeftOf cX2_bidsLeftOf 4 (some .int), .fieldLink RX2 74 "PastureBids" "bidCount" "I", .fieldLink RX2 17 "PastureBids" "owners" "[I", .fieldLink RX2 32 "PastureBids" "withdrawn" "[Z"] ++ wsX20)
def wsX2_withdraw_r1 : List Cond := [Cond.classLink RX2 64 "java/lang/IllegalStateException", Cond.initialized "java/lang/IllegalStateException", Cond.fieldLink RX2 32 "PastureBids" "withdrawn" "[Z", Cond.fieldLink RX2 38 "PastureBids" "sale" "LPastureBids$Sale;", Cond.methodLink RX2 97 yX2_requireBid, Cond.instanceMethod yX2_requireBid, Cond.selects RX2 yX2_requireBid yX2_requireBid, Cond.initialized RX2, Cond.code yX2_requireBid cX2_requireBid 2 none, Cond.classLink RX2 206 "java/lang/IndexOutOfBoundsException", Cond.initialized "java/lang/IndexOutOfBoundsException", Cond.fieldLink RX2 74 "PastureBids" "bidCount" "I", Cond.methodLink RX2 52 yX2_settle, Cond.instanceMethod yX2_settle, Cond.selects RX2 yX2_settle yX2_settle, Cond.code yX2_settle cX2_settle 4 none, Cond.fieldLink RX2 81 "PastureBids" "bidderCount" "I", Cond.fieldLink RX2 48 "PastureBids" "search" "LPastureBids$BestSet;", Cond.instanceMethod yX1_clear, Cond.initialized RX1, Cond.selects RX1 yX1_clear yX1_clear, Cond.code yX1_clear cX1_clear 1 none, Cond.fieldLink RX1 12 "PastureBids$Sale" "winners" "LPastureBids$BestSet;", Cond.fieldLink RX1 18 "PastureBids$Sale" "winningBids" "[I"]
def wsX2_withdraw_r2 : List Cond := [Cond.fieldLink RX1 22 "PastureBids$Sale" "paid" "[I", Cond.fieldLink RX1 25 "PastureBids$Sale" "gainedWithout" "[I", Cond.instanceMethod yX0_clear, Cond.initialized RX0, Cond.selects RX0 yX0_clear yX0_clear, Cond.code yX0_clear cX0_clear 1 none, Cond.fieldLink RX0 7 "PastureBids$BestSet" "gained" "I", Cond.fieldLink RX0 13 "PastureBids$BestSet" "bids" "I", Cond.methodLink RX1 31 yJ7_fill_53178, Cond.static yJ7_fill_53178, Cond.initialized RJ7, Cond.code yJ7_fill_53178 cJ7_fill_53178 4 none, Cond.methodLink RX2 235 yX2_findWinners, Cond.instanceMethod yX2_findWinners, Cond.selects RX2 yX2_findWinners yX2_findWinners, Cond.code yX2_findWinners cX2_findWinners 3 none, Cond.methodLink RX2 243 yX2_seek, Cond.instanceMethod yX2_seek, Cond.selects RX2 yX2_seek yX2_seek, Cond.code yX2_seek cX2_seek 8 none, Cond.instanceMethod yX0_consider, Cond.selects RX0 yX0_consider yX0_consider, Cond.code yX0_consider cX0_consider 3 none, Cond.methodLink RX0 16 yX0_isBeatenBy]
def wsX2_withdraw_r3 : List Cond := [Cond.instanceMethod yX0_isBeatenBy, Cond.selects RX0 yX0_isBeatenBy yX0_isBeatenBy, Cond.code yX0_isBeatenBy cX0_isBeatenBy 5 (some .boolean), Cond.methodLink RX0 20 yJ6_bitCount_0f7a4, Cond.static yJ6_bitCount_0f7a4, Cond.initialized RJ6, Cond.code yJ6_bitCount_0f7a4 cJ6_bitCount_0f7a4 1 (some .int), Cond.constant RJ6 265 (1431655765), Cond.constant RJ6 266 (858993459), Cond.constant RJ6 267 (252645135), Cond.methodLink RX2 250 yX2_seekWith, Cond.instanceMethod yX2_seekWith, Cond.selects RX2 yX2_seekWith yX2_seekWith, Cond.code yX2_seekWith cX2_seekWith 9 none, Cond.fieldLink RX2 17 "PastureBids" "owners" "[I", Cond.fieldLink RX2 20 "PastureBids" "bundles" "[I", Cond.fieldLink RX2 26 "PastureBids" "gains" "[I", Cond.methodLink RX2 113 yX2_counts, Cond.instanceMethod yX2_counts, Cond.selects RX2 yX2_counts yX2_counts, Cond.code yX2_counts cX2_counts 2 (some .boolean), Cond.fieldLink RX2 13 "PastureBids" "ins" "[Z", Cond.instanceMethod yX0_has, Cond.selects RX0 yX0_has yX0_has]
def wsX2_withdraw_r4 : List Cond := [Cond.code yX0_has cX0_has 2 (some .boolean), Cond.methodLink RX2 239 yX2_award, Cond.instanceMethod yX2_award, Cond.selects RX2 yX2_award yX2_award, Cond.code yX2_award cX2_award 5 none, Cond.methodLink RX2 226 yX2_reservesOf, Cond.instanceMethod yX2_reservesOf, Cond.selects RX2 yX2_reservesOf yX2_reservesOf, Cond.code yX2_reservesOf cX2_reservesOf 4 (some .int), Cond.fieldLink RX2 60 "PastureBids" "fieldCount" "I", Cond.fieldLink RX2 9 "PastureBids" "reserves" "[I", Cond.methodLink RX2 229 yX2_hasField, Cond.static yX2_hasField, Cond.code yX2_hasField cX2_hasField 2 (some .boolean), Cond.methodLink RX2 102 yX2_bidsLeft, Cond.instanceMethod yX2_bidsLeft, Cond.selects RX2 yX2_bidsLeft yX2_bidsLeft, Cond.code yX2_bidsLeft cX2_bidsLeft 3 (some .int), Cond.methodLink RX2 123 yX2_bidsLeftOf, Cond.instanceMethod yX2_bidsLeftOf, Cond.selects RX2 yX2_bidsLeftOf yX2_bidsLeftOf, Cond.code yX2_bidsLeftOf cX2_bidsLeftOf 4 (some .int)]
def wsX2_withdraw : List Cond := .code yX2_withdraw cX2_withdraw 2 (some .int) :: ((wsX2_withdraw_r1 ++ (wsX2_withdraw_r2 ++ (wsX2_withdraw_r3 ++ wsX2_withdraw_r4))) ++ wsX20 ++ wsX10 ++ wsX00 ++ (vx_atS RX2 68 "java/lang/IllegalStateException" ["java/lang/RuntimeException", "java/lang/Exception"]).filter goodWord ++ (vx_atS RX2 210 "java/lang/IndexOutOfBoundsException" ["java/lang/RuntimeException", "java/lang/Exception"]).filter goodWord)
def wsX2_requireWhat : List Cond := .code yX2_requireWhat cX2_requireWhat 2 none :: ([.classLink RX2 206 "java/lang/IndexOutOfBoundsException", .initialized "java/lang/IndexOutOfBoundsException"] ++ (vx_atS RX2 210 "java/lang/IndexOutOfBoundsException" ["java/lang/RuntimeException", "java/lang/Exception"]).filter goodWord)
def wsX2_asNumber : List Cond := .code yX2_asNumber cX2_asNumber 1 (some .int) :: ([])
def wsX2_told_r1 : List Cond := [Cond.fieldLink RX2 17 "PastureBids" "owners" "[I", Cond.fieldLink RX2 20 "PastureBids" "bundles" "[I", Cond.fieldLink RX2 23 "PastureBids" "prices" "[I", Cond.fieldLink RX2 29 "PastureBids" "worths" "[I", Cond.fieldLink RX2 32 "PastureBids" "withdrawn" "[Z", Cond.fieldLink RX2 26 "PastureBids" "gains" "[I", Cond.fieldLink RX2 38 "PastureBids" "sale" "LPastureBids$Sale;", Cond.methodLink RX2 97 yX2_requireBid, Cond.instanceMethod yX2_requireBid, Cond.selects RX2 yX2_requireBid yX2_requireBid, Cond.initialized RX2, Cond.code yX2_requireBid cX2_requireBid 2 none, Cond.classLink RX2 206 "java/lang/IndexOutOfBoundsException", Cond.initialized "java/lang/IndexOutOfBoundsException", Cond.fieldLink RX2 74 "PastureBids" "bidCount" "I", Cond.methodLink RX2 106 yX2_requireWhat, Cond.static yX2_requireWhat, Cond.code yX2_requireWhat cX2_requireWhat 2 none, Cond.methodLink RX2 109 yX2_asNumber, Cond.static yX2_asNumber, Cond.code yX2_asNumber cX2_asNumber 1 (some .int), Cond.methodLink RX2 113 yX2_counts, Cond.instanceMethod yX2_counts, Cond.selects RX2 yX2_counts yX2_counts]
def wsX2_told_r2 : List Cond := [Cond.code yX2_counts cX2_counts 2 (some .boolean), Cond.fieldLink RX2 13 "PastureBids" "ins" "[Z", Cond.instanceMethod yX0_has, Cond.initialized RX0, Cond.selects RX0 yX0_has yX0_has, Cond.code yX0_has cX0_has 2 (some .boolean), Cond.fieldLink RX0 13 "PastureBids$BestSet" "bids" "I"]
def wsX2_told : List Cond := .code yX2_told cX2_told 3 (some .int) :: ((wsX2_told_r1 ++ wsX2_told_r2) ++ wsX20 ++ wsX10 ++ wsX00 ++ (vx_atS RX2 210 "java/lang/IndexOutOfBoundsException" ["java/lang/RuntimeException", "java/lang/Exception"]).filter goodWord)
def wsX2_profit : List Cond := .code yX2_profit cX2_profit 4 (some .int) :: ([.fieldLink RX2 29 "PastureBids" "worths" "[I"] ++ wsX10 ++ wsX20)
def wsX2_about_r1 : List Cond := [Cond.fieldLink RX2 13 "PastureBids" "ins" "[Z", Cond.fieldLink RX2 38 "PastureBids" "sale" "LPastureBids$Sale;", Cond.methodLink RX2 86 yX2_requireBidder, Cond.instanceMethod yX2_requireBidder, Cond.selects RX2 yX2_requireBidder yX2_requireBidder, Cond.initialized RX2, Cond.code yX2_requireBidder cX2_requireBidder 2 none, Cond.classLink RX2 206 "java/lang/IndexOutOfBoundsException", Cond.initialized "java/lang/IndexOutOfBoundsException", Cond.fieldLink RX2 81 "PastureBids" "bidderCount" "I", Cond.methodLink RX2 106 yX2_requireWhat, Cond.static yX2_requireWhat, Cond.code yX2_requireWhat cX2_requireWhat 2 none, Cond.methodLink RX2 109 yX2_asNumber, Cond.static yX2_asNumber, Cond.code yX2_asNumber cX2_asNumber 1 (some .int), Cond.methodLink RX2 123 yX2_bidsLeftOf, Cond.instanceMethod yX2_bidsLeftOf, Cond.selects RX2 yX2_bidsLeftOf yX2_bidsLeftOf, Cond.code yX2_bidsLeftOf cX2_bidsLeftOf 4 (some .int), Cond.fieldLink RX2 74 "PastureBids" "bidCount" "I", Cond.fieldLink RX2 17 "PastureBids" "owners" "[I", Cond.fieldLink RX2 32 "PastureBids" "withdrawn" "[Z", Cond.methodLink RX2 133 yX2_profit]
def wsX2_about_r2 : List Cond := [Cond.instanceMethod yX2_profit, Cond.selects RX2 yX2_profit yX2_profit, Cond.code yX2_profit cX2_profit 4 (some .int), Cond.fieldLink RX2 29 "PastureBids" "worths" "[I"]
def wsX2_about : List Cond := .code yX2_about cX2_about 3 (some .int) :: ((wsX2_about_r1 ++ wsX2_about_r2) ++ wsX20 ++ wsX10 ++ (vx_atS RX2 210 "java/lang/IndexOutOfBoundsException" ["java/lang/RuntimeException", "java/lang/Exception"]).filter goodWord)
def wsX2_winnerOfField : List Cond := .code yX2_winnerOfField cX2_winnerOfField 3 (some .int) :: ([.fieldLink RX2 74 "PastureBids" "bidCount" "I", .fieldLink RX2 38 "PastureBids" "sale" "LPastureBids$Sale;", .fieldLink RX2 20 "PastureBids" "bundles" "[I", .instanceMethod yX0_has, .initialized RX0, .selects RX0 yX0_has yX0_has, .code yX0_has cX0_has 2 (some .boolean), .fieldLink RX0 13 "PastureBids$BestSet" "bids" "I", .methodLink RX2 229 yX2_hasField, .static yX2_hasField, .initialized RX2, .code yX2_hasField cX2_hasField 2 (some .boolean)] ++ wsX20 ++ wsX10 ++ wsX00)
def wsX2_ownerOf : List Cond := .code yX2_ownerOf cX2_ownerOf 2 (some .int) :: ([.fieldLink RX2 17 "PastureBids" "owners" "[I"] ++ wsX20)
def wsX2_countingBidsWith : List Cond := .code yX2_countingBidsWith cX2_countingBidsWith 4 (some .int) :: ([.fieldLink RX2 74 "PastureBids" "bidCount" "I", .fieldLink RX2 20 "PastureBids" "bundles" "[I", .methodLink RX2 113 yX2_counts, .instanceMethod yX2_counts, .selects RX2 yX2_counts yX2_counts, .initialized RX2, .code yX2_counts cX2_counts 2 (some .boolean), .fieldLink RX2 32 "PastureBids" "withdrawn" "[Z", .fieldLink RX2 13 "PastureBids" "ins" "[Z", .fieldLink RX2 17 "PastureBids" "owners" "[I", .fieldLink RX2 26 "PastureBids" "gains" "[I", .methodLink RX2 229 yX2_hasField, .static yX2_hasField, .code yX2_hasField cX2_hasField 2 (some .boolean)] ++ wsX20)
def wsX2_land_r1 : List Cond := [Cond.fieldLink RX2 9 "PastureBids" "reserves" "[I", Cond.methodLink RX2 71 yX2_requireField, Cond.instanceMethod yX2_requireField, Cond.selects RX2 yX2_requireField yX2_requireField, Cond.initialized RX2, Cond.code yX2_requireField cX2_requireField 2 none, Cond.classLink RX2 206 "java/lang/IndexOutOfBoundsException", Cond.initialized "java/lang/IndexOutOfBoundsException", Cond.fieldLink RX2 60 "PastureBids" "fieldCount" "I", Cond.methodLink RX2 106 yX2_requireWhat, Cond.static yX2_requireWhat, Cond.code yX2_requireWhat cX2_requireWhat 2 none, Cond.methodLink RX2 140 yX2_winnerOfField, Cond.instanceMethod yX2_winnerOfField, Cond.selects RX2 yX2_winnerOfField yX2_winnerOfField, Cond.code yX2_winnerOfField cX2_winnerOfField 3 (some .int), Cond.fieldLink RX2 74 "PastureBids" "bidCount" "I", Cond.fieldLink RX2 38 "PastureBids" "sale" "LPastureBids$Sale;", Cond.fieldLink RX2 20 "PastureBids" "bundles" "[I", Cond.instanceMethod yX0_has, Cond.initialized RX0, Cond.selects RX0 yX0_has yX0_has, Cond.code yX0_has cX0_has 2 (some .boolean), Cond.fieldLink RX0 13 "PastureBids$BestSet" "bids" "I"]
def wsX2_land_r2 : List Cond := [Cond.methodLink RX2 229 yX2_hasField, Cond.static yX2_hasField, Cond.code yX2_hasField cX2_hasField 2 (some .boolean), Cond.methodLink RX2 143 yX2_ownerOf, Cond.instanceMethod yX2_ownerOf, Cond.selects RX2 yX2_ownerOf yX2_ownerOf, Cond.code yX2_ownerOf cX2_ownerOf 2 (some .int), Cond.fieldLink RX2 17 "PastureBids" "owners" "[I", Cond.methodLink RX2 146 yX2_countingBidsWith, Cond.instanceMethod yX2_countingBidsWith, Cond.selects RX2 yX2_countingBidsWith yX2_countingBidsWith, Cond.code yX2_countingBidsWith cX2_countingBidsWith 4 (some .int), Cond.methodLink RX2 113 yX2_counts, Cond.instanceMethod yX2_counts, Cond.selects RX2 yX2_counts yX2_counts, Cond.code yX2_counts cX2_counts 2 (some .boolean), Cond.fieldLink RX2 32 "PastureBids" "withdrawn" "[Z", Cond.fieldLink RX2 13 "PastureBids" "ins" "[Z", Cond.fieldLink RX2 26 "PastureBids" "gains" "[I"]
def wsX2_land : List Cond := .code yX2_land cX2_land 3 (some .int) :: ((wsX2_land_r1 ++ wsX2_land_r2) ++ wsX20 ++ wsX10 ++ wsX00 ++ (vx_atS RX2 210 "java/lang/IndexOutOfBoundsException" ["java/lang/RuntimeException", "java/lang/Exception"]).filter goodWord)
def wsX2_soldFields : List Cond := .code yX2_soldFields cX2_soldFields 3 (some .int) :: ([.fieldLink RX2 74 "PastureBids" "bidCount" "I", .fieldLink RX2 38 "PastureBids" "sale" "LPastureBids$Sale;", .fieldLink RX2 20 "PastureBids" "bundles" "[I", .instanceMethod yX0_has, .initialized RX0, .selects RX0 yX0_has yX0_has, .code yX0_has cX0_has 2 (some .boolean), .fieldLink RX0 13 "PastureBids$BestSet" "bids" "I"] ++ wsX20 ++ wsX10 ++ wsX00)
def wsX2_totalProfit : List Cond := .code yX2_totalProfit cX2_totalProfit 3 (some .int) :: ([.fieldLink RX2 81 "PastureBids" "bidderCount" "I", .fieldLink RX2 38 "PastureBids" "sale" "LPastureBids$Sale;", .methodLink RX2 133 yX2_profit, .instanceMethod yX2_profit, .selects RX2 yX2_profit yX2_profit, .initialized RX2, .code yX2_profit cX2_profit 4 (some .int), .fieldLink RX2 29 "PastureBids" "worths" "[I"] ++ wsX20 ++ wsX10)
def wsX2_winningPrices : List Cond := .code yX2_winningPrices cX2_winningPrices 3 (some .int) :: ([.fieldLink RX2 74 "PastureBids" "bidCount" "I", .fieldLink RX2 38 "PastureBids" "sale" "LPastureBids$Sale;", .fieldLink RX2 23 "PastureBids" "prices" "[I", .instanceMethod yX0_has, .initialized RX0, .selects RX0 yX0_has yX0_has, .code yX0_has cX0_has 2 (some .boolean), .fieldLink RX0 13 "PastureBids$BestSet" "bids" "I"] ++ wsX20 ++ wsX10 ++ wsX00)
def wsX2_count_r1 : List Cond := [Cond.fieldLink RX2 60 "PastureBids" "fieldCount" "I", Cond.fieldLink RX2 81 "PastureBids" "bidderCount" "I", Cond.fieldLink RX2 74 "PastureBids" "bidCount" "I", Cond.fieldLink RX2 38 "PastureBids" "sale" "LPastureBids$Sale;", Cond.methodLink RX2 106 yX2_requireWhat, Cond.static yX2_requireWhat, Cond.initialized RX2, Cond.code yX2_requireWhat cX2_requireWhat 2 none, Cond.classLink RX2 206 "java/lang/IndexOutOfBoundsException", Cond.initialized "java/lang/IndexOutOfBoundsException", Cond.methodLink RX2 155 yJ6_bitCount_0f7a4, Cond.static yJ6_bitCount_0f7a4, Cond.initialized RJ6, Cond.code yJ6_bitCount_0f7a4 cJ6_bitCount_0f7a4 1 (some .int), Cond.constant RJ6 265 (1431655765), Cond.constant RJ6 266 (858993459), Cond.constant RJ6 267 (252645135), Cond.methodLink RX2 160 yX2_soldFields, Cond.instanceMethod yX2_soldFields, Cond.selects RX2 yX2_soldFields yX2_soldFields, Cond.code yX2_soldFields cX2_soldFields 3 (some .int), Cond.fieldLink RX2 20 "PastureBids" "bundles" "[I", Cond.instanceMethod yX0_has, Cond.initialized RX0]
def wsX2_count_r2 : List Cond := [Cond.selects RX0 yX0_has yX0_has, Cond.code yX0_has cX0_has 2 (some .boolean), Cond.fieldLink RX0 13 "PastureBids$BestSet" "bids" "I", Cond.instanceMethod yX1_totalPaid, Cond.initialized RX1, Cond.selects RX1 yX1_totalPaid yX1_totalPaid, Cond.code yX1_totalPaid cX1_totalPaid 6 (some .int), Cond.fieldLink RX1 22 "PastureBids$Sale" "paid" "[I", Cond.methodLink RX2 166 yX2_totalProfit, Cond.instanceMethod yX2_totalProfit, Cond.selects RX2 yX2_totalProfit yX2_totalProfit, Cond.code yX2_totalProfit cX2_totalProfit 3 (some .int), Cond.methodLink RX2 133 yX2_profit, Cond.instanceMethod yX2_profit, Cond.selects RX2 yX2_profit yX2_profit, Cond.code yX2_profit cX2_profit 4 (some .int), Cond.fieldLink RX2 29 "PastureBids" "worths" "[I", Cond.methodLink RX2 169 yX2_winningPrices, Cond.instanceMethod yX2_winningPrices, Cond.selects RX2 yX2_winningPrices yX2_winningPrices, Cond.code yX2_winningPrices cX2_winningPrices 3 (some .int), Cond.fieldLink RX2 23 "PastureBids" "prices" "[I"]
def wsX2_count : List Cond := .code yX2_count cX2_count 2 (some .int) :: ((wsX2_count_r1 ++ wsX2_count_r2) ++ wsX20 ++ wsX10 ++ wsX00 ++ (vx_atS RX2 210 "java/lang/IndexOutOfBoundsException" ["java/lang/RuntimeException", "java/lang/Exception"]).filter goodWord)
def wsX2_highestAlone : List Cond := .code yX2_highestAlone cX2_highestAlone 6 (some .int) :: ([.fieldLink RX2 74 "PastureBids" "bidCount" "I", .fieldLink RX2 20 "PastureBids" "bundles" "[I", .fieldLink RX2 17 "PastureBids" "owners" "[I", .fieldLink RX2 23 "PastureBids" "prices" "[I", .methodLink RX2 113 yX2_counts, .instanceMethod yX2_counts, .selects RX2 yX2_counts yX2_counts, .initialized RX2, .code yX2_counts cX2_counts 2 (some .boolean), .fieldLink RX2 32 "PastureBids" "withdrawn" "[Z", .fieldLink RX2 13 "PastureBids" "ins" "[Z", .fieldLink RX2 26 "PastureBids" "gains" "[I"] ++ wsX20)
def wsX2_secondPrice : List Cond := .code yX2_secondPrice cX2_secondPrice 4 (some .int) :: ([.fieldLink RX2 17 "PastureBids" "owners" "[I", .fieldLink RX2 9 "PastureBids" "reserves" "[I", .fieldLink RX2 23 "PastureBids" "prices" "[I", .methodLink RX2 172 yX2_highestAlone, .instanceMethod yX2_highestAlone, .selects RX2 yX2_highestAlone yX2_highestAlone, .initialized RX2, .code yX2_highestAlone cX2_highestAlone 6 (some .int), .fieldLink RX2 74 "PastureBids" "bidCount" "I", .fieldLink RX2 20 "PastureBids" "bundles" "[I", .methodLink RX2 113 yX2_counts, .instanceMethod yX2_counts, .selects RX2 yX2_counts yX2_counts, .code yX2_counts cX2_counts 2 (some .boolean), .fieldLink RX2 32 "PastureBids" "withdrawn" "[Z", .fieldLink RX2 13 "PastureBids" "ins" "[Z", .fieldLink RX2 26 "PastureBids" "gains" "[I"] ++ wsX20)
def wsX2_alone_r1 : List Cond := [Cond.fieldLink RX2 17 "PastureBids" "owners" "[I", Cond.methodLink RX2 71 yX2_requireField, Cond.instanceMethod yX2_requireField, Cond.selects RX2 yX2_requireField yX2_requireField, Cond.initialized RX2, Cond.code yX2_requireField cX2_requireField 2 none, Cond.classLink RX2 206 "java/lang/IndexOutOfBoundsException", Cond.initialized "java/lang/IndexOutOfBoundsException", Cond.fieldLink RX2 60 "PastureBids" "fieldCount" "I", Cond.methodLink RX2 106 yX2_requireWhat, Cond.static yX2_requireWhat, Cond.code yX2_requireWhat cX2_requireWhat 2 none, Cond.methodLink RX2 172 yX2_highestAlone, Cond.instanceMethod yX2_highestAlone, Cond.selects RX2 yX2_highestAlone yX2_highestAlone, Cond.code yX2_highestAlone cX2_highestAlone 6 (some .int), Cond.fieldLink RX2 74 "PastureBids" "bidCount" "I", Cond.fieldLink RX2 20 "PastureBids" "bundles" "[I", Cond.fieldLink RX2 23 "PastureBids" "prices" "[I", Cond.methodLink RX2 113 yX2_counts, Cond.instanceMethod yX2_counts, Cond.selects RX2 yX2_counts yX2_counts, Cond.code yX2_counts cX2_counts 2 (some .boolean), Cond.fieldLink RX2 32 "PastureBids" "withdrawn" "[Z"]
def wsX2_alone_r2 : List Cond := [Cond.fieldLink RX2 13 "PastureBids" "ins" "[Z", Cond.fieldLink RX2 26 "PastureBids" "gains" "[I", Cond.methodLink RX2 176 yX2_secondPrice, Cond.instanceMethod yX2_secondPrice, Cond.selects RX2 yX2_secondPrice yX2_secondPrice, Cond.code yX2_secondPrice cX2_secondPrice 4 (some .int), Cond.fieldLink RX2 9 "PastureBids" "reserves" "[I"]
def wsX2_alone : List Cond := .code yX2_alone cX2_alone 4 (some .int) :: ((wsX2_alone_r1 ++ wsX2_alone_r2) ++ wsX20 ++ (vx_atS RX2 210 "java/lang/IndexOutOfBoundsException" ["java/lang/RuntimeException", "java/lang/Exception"]).filter goodWord)
def wsX2_mean : List Cond := .code yX2_mean cX2_mean 2 (some .double) :: ([.fieldLink RX2 38 "PastureBids" "sale" "LPastureBids$Sale;", .methodLink RX2 155 yJ6_bitCount_0f7a4, .static yJ6_bitCount_0f7a4, .initialized RJ6, .code yJ6_bitCount_0f7a4 cJ6_bitCount_0f7a4 1 (some .int), .constant RJ6 265 (1431655765), .constant RJ6 266 (858993459), .constant RJ6 267 (252645135), .instanceMethod yX1_totalPaid, .initialized RX1, .selects RX1 yX1_totalPaid yX1_totalPaid, .code yX1_totalPaid cX1_totalPaid 6 (some .int), .fieldLink RX1 22 "PastureBids$Sale" "paid" "[I"] ++ wsX20 ++ wsX10 ++ wsX00)
def wsX3_init : List Cond := .code yX3_init cX3_init 1 none :: ([.methodLink RX3 1 objectInit, .instanceMethod objectInit, .code objectInit ⟨#[0xb1]⟩ 1 none, .arrayClass .int, .fieldLink RX3 7 "PastureBidsLaw$Sim" "reserves" "[I", .arrayClass .boolean, .fieldLink RX3 13 "PastureBidsLaw$Sim" "isIn" "[Z", .classLink RX3 17 "[I", .fieldLink RX3 18 "PastureBidsLaw$Sim" "bids" "[[I"] ++ wsX30)
def wsX3_reserve : List Cond := .code yX3_reserve cX3_reserve 4 (some .int) :: ([.fieldLink RX3 7 "PastureBidsLaw$Sim" "reserves" "[I"] ++ wsX30)
def wsX3_gain : List Cond := .code yX3_gain cX3_gain 2 (some .int) :: ([.fieldLink RX3 18 "PastureBidsLaw$Sim" "bids" "[[I", .methodLink RX3 29 yX3_reserve, .instanceMethod yX3_reserve, .selects RX3 yX3_reserve yX3_reserve, .initialized RX3, .code yX3_reserve cX3_reserve 4 (some .int), .fieldLink RX3 7 "PastureBidsLaw$Sim" "reserves" "[I"] ++ wsX30)
def wsX3_counts : List Cond := .code yX3_counts cX3_counts 2 (some .boolean) :: ([.fieldLink RX3 18 "PastureBidsLaw$Sim" "bids" "[[I", .fieldLink RX3 13 "PastureBidsLaw$Sim" "isIn" "[Z", .methodLink RX3 33 yX3_gain, .instanceMethod yX3_gain, .selects RX3 yX3_gain yX3_gain, .initialized RX3, .code yX3_gain cX3_gain 2 (some .int), .methodLink RX3 29 yX3_reserve, .instanceMethod yX3_reserve, .selects RX3 yX3_reserve yX3_reserve, .code yX3_reserve cX3_reserve 4 (some .int), .fieldLink RX3 7 "PastureBidsLaw$Sim" "reserves" "[I"] ++ wsX30)
def wsX3_choose : List Cond := .code yX3_choose cX3_choose 8 none :: ([.fieldLink RX3 13 "PastureBidsLaw$Sim" "isIn" "[Z", .fieldLink RX3 36 "PastureBidsLaw$Sim" "sum" "I", .fieldLink RX3 40 "PastureBidsLaw$Sim" "many" "I", .fieldLink RX3 43 "PastureBidsLaw$Sim" "set" "I", .fieldLink RX3 18 "PastureBidsLaw$Sim" "bids" "[[I", .methodLink RX3 46 yX3_choose, .instanceMethod yX3_choose, .selects RX3 yX3_choose yX3_choose, .initialized RX3, .methodLink RX3 50 yX3_counts, .instanceMethod yX3_counts, .selects RX3 yX3_counts yX3_counts, .code yX3_counts cX3_counts 2 (some .boolean), .methodLink RX3 33 yX3_gain, .instanceMethod yX3_gain, .selects RX3 yX3_gain yX3_gain, .code yX3_gain cX3_gain 2 (some .int), .methodLink RX3 29 yX3_reserve, .instanceMethod yX3_reserve, .selects RX3 yX3_reserve yX3_reserve, .code yX3_reserve cX3_reserve 4 (some .int), .fieldLink RX3 7 "PastureBidsLaw$Sim" "reserves" "[I"] ++ wsX30)
def wsX3_sale : List Cond := .code yX3_sale cX3_sale 2 (some .int) :: ([.fieldLink RX3 36 "PastureBidsLaw$Sim" "sum" "I", .fieldLink RX3 40 "PastureBidsLaw$Sim" "many" "I", .fieldLink RX3 43 "PastureBidsLaw$Sim" "set" "I", .methodLink RX3 46 yX3_choose, .instanceMethod yX3_choose, .selects RX3 yX3_choose yX3_choose, .initialized RX3, .code yX3_choose cX3_choose 8 none, .fieldLink RX3 13 "PastureBidsLaw$Sim" "isIn" "[Z", .fieldLink RX3 18 "PastureBidsLaw$Sim" "bids" "[[I", .methodLink RX3 50 yX3_counts, .instanceMethod yX3_counts, .selects RX3 yX3_counts yX3_counts, .code yX3_counts cX3_counts 2 (some .boolean), .methodLink RX3 33 yX3_gain, .instanceMethod yX3_gain, .selects RX3 yX3_gain yX3_gain, .code yX3_gain cX3_gain 2 (some .int), .methodLink RX3 29 yX3_reserve, .instanceMethod yX3_reserve, .selects RX3 yX3_reserve yX3_reserve, .code yX3_reserve cX3_reserve 4 (some .int), .fieldLink RX3 7 "PastureBidsLaw$Sim" "reserves" "[I"] ++ wsX30)
def wsX3_won_r1 : List Cond := [Cond.fieldLink RX3 18 "PastureBidsLaw$Sim" "bids" "[[I", Cond.methodLink RX3 54 yX3_sale, Cond.instanceMethod yX3_sale, Cond.selects RX3 yX3_sale yX3_sale, Cond.initialized RX3, Cond.code yX3_sale cX3_sale 2 (some .int), Cond.fieldLink RX3 36 "PastureBidsLaw$Sim" "sum" "I", Cond.fieldLink RX3 40 "PastureBidsLaw$Sim" "many" "I", Cond.fieldLink RX3 43 "PastureBidsLaw$Sim" "set" "I", Cond.methodLink RX3 46 yX3_choose, Cond.instanceMethod yX3_choose, Cond.selects RX3 yX3_choose yX3_choose, Cond.code yX3_choose cX3_choose 8 none, Cond.fieldLink RX3 13 "PastureBidsLaw$Sim" "isIn" "[Z", Cond.methodLink RX3 50 yX3_counts, Cond.instanceMethod yX3_counts, Cond.selects RX3 yX3_counts yX3_counts, Cond.code yX3_counts cX3_counts 2 (some .boolean), Cond.methodLink RX3 33 yX3_gain, Cond.instanceMethod yX3_gain, Cond.selects RX3 yX3_gain yX3_gain, Cond.code yX3_gain cX3_gain 2 (some .int), Cond.methodLink RX3 29 yX3_reserve, Cond.instanceMethod yX3_reserve]
def wsX3_won_r2 : List Cond := [Cond.selects RX3 yX3_reserve yX3_reserve, Cond.code yX3_reserve cX3_reserve 4 (some .int), Cond.fieldLink RX3 7 "PastureBidsLaw$Sim" "reserves" "[I"]
def wsX3_won : List Cond := .code yX3_won cX3_won 4 (some .int) :: ((wsX3_won_r1 ++ wsX3_won_r2) ++ wsX30)
def wsX3_pays_r1 : List Cond := [Cond.fieldLink RX3 36 "PastureBidsLaw$Sim" "sum" "I", Cond.fieldLink RX3 18 "PastureBidsLaw$Sim" "bids" "[[I", Cond.methodLink RX3 57 yX3_won, Cond.instanceMethod yX3_won, Cond.selects RX3 yX3_won yX3_won, Cond.initialized RX3, Cond.code yX3_won cX3_won 4 (some .int), Cond.methodLink RX3 54 yX3_sale, Cond.instanceMethod yX3_sale, Cond.selects RX3 yX3_sale yX3_sale, Cond.code yX3_sale cX3_sale 2 (some .int), Cond.fieldLink RX3 40 "PastureBidsLaw$Sim" "many" "I", Cond.fieldLink RX3 43 "PastureBidsLaw$Sim" "set" "I", Cond.methodLink RX3 46 yX3_choose, Cond.instanceMethod yX3_choose, Cond.selects RX3 yX3_choose yX3_choose, Cond.code yX3_choose cX3_choose 8 none, Cond.fieldLink RX3 13 "PastureBidsLaw$Sim" "isIn" "[Z", Cond.methodLink RX3 50 yX3_counts, Cond.instanceMethod yX3_counts, Cond.selects RX3 yX3_counts yX3_counts, Cond.code yX3_counts cX3_counts 2 (some .boolean), Cond.methodLink RX3 33 yX3_gain, Cond.instanceMethod yX3_gain]
def wsX3_pays_r2 : List Cond := [Cond.selects RX3 yX3_gain yX3_gain, Cond.code yX3_gain cX3_gain 2 (some .int), Cond.methodLink RX3 29 yX3_reserve, Cond.instanceMethod yX3_reserve, Cond.selects RX3 yX3_reserve yX3_reserve, Cond.code yX3_reserve cX3_reserve 4 (some .int), Cond.fieldLink RX3 7 "PastureBidsLaw$Sim" "reserves" "[I"]
def wsX3_pays : List Cond := .code yX3_pays cX3_pays 4 (some .int) :: ((wsX3_pays_r1 ++ wsX3_pays_r2) ++ wsX30)
def wsX3_profit_r1 : List Cond := [Cond.fieldLink RX3 18 "PastureBidsLaw$Sim" "bids" "[[I", Cond.methodLink RX3 57 yX3_won, Cond.instanceMethod yX3_won, Cond.selects RX3 yX3_won yX3_won, Cond.initialized RX3, Cond.code yX3_won cX3_won 4 (some .int), Cond.methodLink RX3 54 yX3_sale, Cond.instanceMethod yX3_sale, Cond.selects RX3 yX3_sale yX3_sale, Cond.code yX3_sale cX3_sale 2 (some .int), Cond.fieldLink RX3 36 "PastureBidsLaw$Sim" "sum" "I", Cond.fieldLink RX3 40 "PastureBidsLaw$Sim" "many" "I", Cond.fieldLink RX3 43 "PastureBidsLaw$Sim" "set" "I", Cond.methodLink RX3 46 yX3_choose, Cond.instanceMethod yX3_choose, Cond.selects RX3 yX3_choose yX3_choose, Cond.code yX3_choose cX3_choose 8 none, Cond.fieldLink RX3 13 "PastureBidsLaw$Sim" "isIn" "[Z", Cond.methodLink RX3 50 yX3_counts, Cond.instanceMethod yX3_counts, Cond.selects RX3 yX3_counts yX3_counts, Cond.code yX3_counts cX3_counts 2 (some .boolean), Cond.methodLink RX3 33 yX3_gain, Cond.instanceMethod yX3_gain]
def wsX3_profit_r2 : List Cond := [Cond.selects RX3 yX3_gain yX3_gain, Cond.code yX3_gain cX3_gain 2 (some .int), Cond.methodLink RX3 29 yX3_reserve, Cond.instanceMethod yX3_reserve, Cond.selects RX3 yX3_reserve yX3_reserve, Cond.code yX3_reserve cX3_reserve 4 (some .int), Cond.fieldLink RX3 7 "PastureBidsLaw$Sim" "reserves" "[I", Cond.methodLink RX3 60 yX3_pays, Cond.instanceMethod yX3_pays, Cond.selects RX3 yX3_pays yX3_pays, Cond.code yX3_pays cX3_pays 4 (some .int)]
def wsX3_profit : List Cond := .code yX3_profit cX3_profit 2 (some .int) :: ((wsX3_profit_r1 ++ wsX3_profit_r2) ++ wsX30)
def wsX3_alone : List Cond := .code yX3_alone cX3_alone 5 (some (.array .int)) :: ([.fieldLink RX3 18 "PastureBidsLaw$Sim" "bids" "[[I", .arrayClass .int, .fieldLink RX3 7 "PastureBidsLaw$Sim" "reserves" "[I", .methodLink RX3 50 yX3_counts, .instanceMethod yX3_counts, .selects RX3 yX3_counts yX3_counts, .initialized RX3, .code yX3_counts cX3_counts 2 (some .boolean), .fieldLink RX3 13 "PastureBidsLaw$Sim" "isIn" "[Z", .methodLink RX3 33 yX3_gain, .instanceMethod yX3_gain, .selects RX3 yX3_gain yX3_gain, .code yX3_gain cX3_gain 2 (some .int), .methodLink RX3 29 yX3_reserve, .instanceMethod yX3_reserve, .selects RX3 yX3_reserve yX3_reserve, .code yX3_reserve cX3_reserve 4 (some .int)] ++ wsX30)
def wsX3_isSame_r1 : List Cond := [Cond.fieldLink RX3 36 "PastureBidsLaw$Sim" "sum" "I", Cond.fieldLink RX3 40 "PastureBidsLaw$Sim" "many" "I", Cond.fieldLink RX3 18 "PastureBidsLaw$Sim" "bids" "[[I", Cond.arrayClass .int, Cond.fieldLink RX3 13 "PastureBidsLaw$Sim" "isIn" "[Z", Cond.fieldLink RX3 7 "PastureBidsLaw$Sim" "reserves" "[I", Cond.methodLink RX3 54 yX3_sale, Cond.instanceMethod yX3_sale, Cond.selects RX3 yX3_sale yX3_sale, Cond.initialized RX3, Cond.code yX3_sale cX3_sale 2 (some .int), Cond.fieldLink RX3 43 "PastureBidsLaw$Sim" "set" "I", Cond.methodLink RX3 46 yX3_choose, Cond.instanceMethod yX3_choose, Cond.selects RX3 yX3_choose yX3_choose, Cond.code yX3_choose cX3_choose 8 none, Cond.methodLink RX3 50 yX3_counts, Cond.instanceMethod yX3_counts, Cond.selects RX3 yX3_counts yX3_counts, Cond.code yX3_counts cX3_counts 2 (some .boolean), Cond.methodLink RX3 33 yX3_gain, Cond.instanceMethod yX3_gain, Cond.selects RX3 yX3_gain yX3_gain, Cond.code yX3_gain cX3_gain 2 (some .int)]
def wsX3_isSame_r2 : List Cond := [Cond.methodLink RX3 29 yX3_reserve, Cond.instanceMethod yX3_reserve, Cond.selects RX3 yX3_reserve yX3_reserve, Cond.code yX3_reserve cX3_reserve 4 (some .int), Cond.methodLink RX3 63 yX2_told, Cond.instanceMethod yX2_told, Cond.selects RX2 yX2_told yX2_told, Cond.initialized RX2, Cond.code yX2_told cX2_told 3 (some .int), Cond.fieldLink RX2 17 "PastureBids" "owners" "[I", Cond.fieldLink RX2 20 "PastureBids" "bundles" "[I", Cond.fieldLink RX2 23 "PastureBids" "prices" "[I", Cond.fieldLink RX2 29 "PastureBids" "worths" "[I", Cond.fieldLink RX2 32 "PastureBids" "withdrawn" "[Z", Cond.fieldLink RX2 26 "PastureBids" "gains" "[I", Cond.fieldLink RX2 38 "PastureBids" "sale" "LPastureBids$Sale;", Cond.methodLink RX2 97 yX2_requireBid, Cond.instanceMethod yX2_requireBid, Cond.selects RX2 yX2_requireBid yX2_requireBid, Cond.code yX2_requireBid cX2_requireBid 2 none, Cond.classLink RX2 206 "java/lang/IndexOutOfBoundsException", Cond.initialized "java/lang/IndexOutOfBoundsException", Cond.fieldLink RX2 74 "PastureBids" "bidCount" "I", Cond.methodLink RX2 106 yX2_requireWhat]
def wsX3_isSame_r3 : List Cond := [Cond.static yX2_requireWhat, Cond.code yX2_requireWhat cX2_requireWhat 2 none, Cond.methodLink RX2 109 yX2_asNumber, Cond.static yX2_asNumber, Cond.code yX2_asNumber cX2_asNumber 1 (some .int), Cond.methodLink RX2 113 yX2_counts, Cond.instanceMethod yX2_counts, Cond.selects RX2 yX2_counts yX2_counts, Cond.code yX2_counts cX2_counts 2 (some .boolean), Cond.fieldLink RX2 13 "PastureBids" "ins" "[Z", Cond.instanceMethod yX0_has, Cond.initialized RX0, Cond.selects RX0 yX0_has yX0_has, Cond.code yX0_has cX0_has 2 (some .boolean), Cond.fieldLink RX0 13 "PastureBids$BestSet" "bids" "I", Cond.methodLink RX3 57 yX3_won, Cond.instanceMethod yX3_won, Cond.selects RX3 yX3_won yX3_won, Cond.code yX3_won cX3_won 4 (some .int), Cond.methodLink RX3 60 yX3_pays, Cond.instanceMethod yX3_pays, Cond.selects RX3 yX3_pays yX3_pays, Cond.code yX3_pays cX3_pays 4 (some .int), Cond.methodLink RX3 69 yX3_profit]
def wsX3_isSame_r4 : List Cond := [Cond.instanceMethod yX3_profit, Cond.selects RX3 yX3_profit yX3_profit, Cond.code yX3_profit cX3_profit 2 (some .int), Cond.methodLink RX3 72 yX2_about, Cond.instanceMethod yX2_about, Cond.selects RX2 yX2_about yX2_about, Cond.code yX2_about cX2_about 3 (some .int), Cond.methodLink RX2 86 yX2_requireBidder, Cond.instanceMethod yX2_requireBidder, Cond.selects RX2 yX2_requireBidder yX2_requireBidder, Cond.code yX2_requireBidder cX2_requireBidder 2 none, Cond.fieldLink RX2 81 "PastureBids" "bidderCount" "I", Cond.methodLink RX2 123 yX2_bidsLeftOf, Cond.instanceMethod yX2_bidsLeftOf, Cond.selects RX2 yX2_bidsLeftOf yX2_bidsLeftOf, Cond.code yX2_bidsLeftOf cX2_bidsLeftOf 4 (some .int), Cond.methodLink RX2 133 yX2_profit, Cond.instanceMethod yX2_profit, Cond.selects RX2 yX2_profit yX2_profit, Cond.code yX2_profit cX2_profit 4 (some .int), Cond.methodLink RX3 75 yX2_land, Cond.instanceMethod yX2_land, Cond.selects RX2 yX2_land yX2_land, Cond.code yX2_land cX2_land 3 (some .int)]
def wsX3_isSame_r5 : List Cond := [Cond.fieldLink RX2 9 "PastureBids" "reserves" "[I", Cond.methodLink RX2 71 yX2_requireField, Cond.instanceMethod yX2_requireField, Cond.selects RX2 yX2_requireField yX2_requireField, Cond.code yX2_requireField cX2_requireField 2 none, Cond.fieldLink RX2 60 "PastureBids" "fieldCount" "I", Cond.methodLink RX2 140 yX2_winnerOfField, Cond.instanceMethod yX2_winnerOfField, Cond.selects RX2 yX2_winnerOfField yX2_winnerOfField, Cond.code yX2_winnerOfField cX2_winnerOfField 3 (some .int), Cond.methodLink RX2 229 yX2_hasField, Cond.static yX2_hasField, Cond.code yX2_hasField cX2_hasField 2 (some .boolean), Cond.methodLink RX2 143 yX2_ownerOf, Cond.instanceMethod yX2_ownerOf, Cond.selects RX2 yX2_ownerOf yX2_ownerOf, Cond.code yX2_ownerOf cX2_ownerOf 2 (some .int), Cond.methodLink RX2 146 yX2_countingBidsWith, Cond.instanceMethod yX2_countingBidsWith, Cond.selects RX2 yX2_countingBidsWith yX2_countingBidsWith, Cond.code yX2_countingBidsWith cX2_countingBidsWith 4 (some .int), Cond.methodLink RX3 78 yX3_alone, Cond.instanceMethod yX3_alone, Cond.selects RX3 yX3_alone yX3_alone]
def wsX3_isSame_r6 : List Cond := [Cond.code yX3_alone cX3_alone 5 (some (.array .int)), Cond.methodLink RX3 82 yX2_alone, Cond.instanceMethod yX2_alone, Cond.selects RX2 yX2_alone yX2_alone, Cond.code yX2_alone cX2_alone 4 (some .int), Cond.methodLink RX2 172 yX2_highestAlone, Cond.instanceMethod yX2_highestAlone, Cond.selects RX2 yX2_highestAlone yX2_highestAlone, Cond.code yX2_highestAlone cX2_highestAlone 6 (some .int), Cond.methodLink RX2 176 yX2_secondPrice, Cond.instanceMethod yX2_secondPrice, Cond.selects RX2 yX2_secondPrice yX2_secondPrice, Cond.code yX2_secondPrice cX2_secondPrice 4 (some .int), Cond.methodLink RX3 84 yX2_count, Cond.instanceMethod yX2_count, Cond.selects RX2 yX2_count yX2_count, Cond.code yX2_count cX2_count 2 (some .int), Cond.methodLink RX2 155 yJ6_bitCount_0f7a4, Cond.static yJ6_bitCount_0f7a4, Cond.initialized RJ6, Cond.code yJ6_bitCount_0f7a4 cJ6_bitCount_0f7a4 1 (some .int), Cond.constant RJ6 265 (1431655765), Cond.constant RJ6 266 (858993459), Cond.constant RJ6 267 (252645135)]
def wsX3_isSame_r7 : List Cond := [Cond.methodLink RX2 160 yX2_soldFields, Cond.instanceMethod yX2_soldFields, Cond.selects RX2 yX2_soldFields yX2_soldFields, Cond.code yX2_soldFields cX2_soldFields 3 (some .int), Cond.instanceMethod yX1_totalPaid, Cond.initialized RX1, Cond.selects RX1 yX1_totalPaid yX1_totalPaid, Cond.code yX1_totalPaid cX1_totalPaid 6 (some .int), Cond.fieldLink RX1 22 "PastureBids$Sale" "paid" "[I", Cond.methodLink RX2 166 yX2_totalProfit, Cond.instanceMethod yX2_totalProfit, Cond.selects RX2 yX2_totalProfit yX2_totalProfit, Cond.code yX2_totalProfit cX2_totalProfit 3 (some .int), Cond.methodLink RX2 169 yX2_winningPrices, Cond.instanceMethod yX2_winningPrices, Cond.selects RX2 yX2_winningPrices yX2_winningPrices, Cond.code yX2_winningPrices cX2_winningPrices 3 (some .int), Cond.methodLink RX3 87 yX2_mean, Cond.instanceMethod yX2_mean, Cond.selects RX2 yX2_mean yX2_mean, Cond.code yX2_mean cX2_mean 2 (some .double)]
def wsX3_isSame : List Cond := .code yX3_isSame cX3_isSame 15 (some .boolean) :: ((wsX3_isSame_r1 ++ (wsX3_isSame_r2 ++ (wsX3_isSame_r3 ++ (wsX3_isSame_r4 ++ (wsX3_isSame_r5 ++ (wsX3_isSame_r6 ++ wsX3_isSame_r7)))))) ++ wsX30 ++ wsX20 ++ wsX10 ++ wsX00 ++ (vx_atS RX2 210 "java/lang/IndexOutOfBoundsException" ["java/lang/RuntimeException", "java/lang/Exception"]).filter goodWord)
def wsL_below : List Cond := .code yL_below cL_below 2 (some .int) :: ([.constant RL 7 (2147483647)])
def wsL_cell : List Cond := .code yL_cell cL_cell 2 (some .int) :: ([.constant RL 8 (790386105)])
def wsL_with : List Cond := .code yL_with cL_with 4 (some (.array .int)) :: ([.arrayClass .int])
def wsL_act_r1 : List Cond := [Cond.fieldLink RL 9 "PastureBidsLaw$Sim" "reserves" "[I", Cond.fieldLink RL 15 "PastureBidsLaw$Sim" "isIn" "[Z", Cond.fieldLink RL 19 "PastureBidsLaw$Sim" "bids" "[[I", Cond.arrayClass .boolean, Cond.classLink RL 59 "[I", Cond.arrayClass .int, Cond.methodLink RL 23 yL_below, Cond.static yL_below, Cond.initialized RL, Cond.code yL_below cL_below 2 (some .int), Cond.constant RL 7 (2147483647), Cond.methodLink RL 29 yL_with, Cond.static yL_with, Cond.code yL_with cL_with 4 (some (.array .int)), Cond.methodLink RL 33 yX2_field, Cond.instanceMethod yX2_field, Cond.selects RX2 yX2_field yX2_field, Cond.initialized RX2, Cond.code yX2_field cX2_field 3 (some .int), Cond.classLink RX2 64 "java/lang/IllegalStateException", Cond.initialized "java/lang/IllegalStateException", Cond.fieldLink RX2 60 "PastureBids" "fieldCount" "I", Cond.fieldLink RX2 9 "PastureBids" "reserves" "[I", Cond.methodLink RX2 56 yX2_requireReserve]
def wsL_act_r2 : List Cond := [Cond.static yX2_requireReserve, Cond.code yX2_requireReserve cX2_requireReserve 1 none, Cond.classLink RX2 217 "java/lang/IllegalArgumentException", Cond.initialized "java/lang/IllegalArgumentException", Cond.methodLink RL 39 yX2_setReserve, Cond.instanceMethod yX2_setReserve, Cond.selects RX2 yX2_setReserve yX2_setReserve, Cond.code yX2_setReserve cX2_setReserve 5 (some .int), Cond.fieldLink RX2 74 "PastureBids" "bidCount" "I", Cond.fieldLink RX2 23 "PastureBids" "prices" "[I", Cond.fieldLink RX2 38 "PastureBids" "sale" "LPastureBids$Sale;", Cond.methodLink RX2 71 yX2_requireField, Cond.instanceMethod yX2_requireField, Cond.selects RX2 yX2_requireField yX2_requireField, Cond.code yX2_requireField cX2_requireField 2 none, Cond.classLink RX2 206 "java/lang/IndexOutOfBoundsException", Cond.initialized "java/lang/IndexOutOfBoundsException", Cond.methodLink RX2 77 yX2_putPrice, Cond.instanceMethod yX2_putPrice, Cond.selects RX2 yX2_putPrice yX2_putPrice, Cond.code yX2_putPrice cX2_putPrice 3 none, Cond.fieldLink RX2 26 "PastureBids" "gains" "[I", Cond.fieldLink RX2 20 "PastureBids" "bundles" "[I", Cond.methodLink RX2 226 yX2_reservesOf]
def wsL_act_r3 : List Cond := [Cond.instanceMethod yX2_reservesOf, Cond.selects RX2 yX2_reservesOf yX2_reservesOf, Cond.code yX2_reservesOf cX2_reservesOf 4 (some .int), Cond.methodLink RX2 229 yX2_hasField, Cond.static yX2_hasField, Cond.code yX2_hasField cX2_hasField 2 (some .boolean), Cond.methodLink RX2 52 yX2_settle, Cond.instanceMethod yX2_settle, Cond.selects RX2 yX2_settle yX2_settle, Cond.code yX2_settle cX2_settle 4 none, Cond.fieldLink RX2 81 "PastureBids" "bidderCount" "I", Cond.fieldLink RX2 48 "PastureBids" "search" "LPastureBids$BestSet;", Cond.instanceMethod yX1_clear, Cond.initialized RX1, Cond.selects RX1 yX1_clear yX1_clear, Cond.code yX1_clear cX1_clear 1 none, Cond.fieldLink RX1 12 "PastureBids$Sale" "winners" "LPastureBids$BestSet;", Cond.fieldLink RX1 18 "PastureBids$Sale" "winningBids" "[I", Cond.fieldLink RX1 22 "PastureBids$Sale" "paid" "[I", Cond.fieldLink RX1 25 "PastureBids$Sale" "gainedWithout" "[I", Cond.instanceMethod yX0_clear, Cond.initialized RX0, Cond.selects RX0 yX0_clear yX0_clear, Cond.code yX0_clear cX0_clear 1 none]
def wsL_act_r4 : List Cond := [Cond.fieldLink RX0 7 "PastureBids$BestSet" "gained" "I", Cond.fieldLink RX0 13 "PastureBids$BestSet" "bids" "I", Cond.methodLink RX1 31 yJ7_fill_53178, Cond.static yJ7_fill_53178, Cond.initialized RJ7, Cond.code yJ7_fill_53178 cJ7_fill_53178 4 none, Cond.methodLink RX2 235 yX2_findWinners, Cond.instanceMethod yX2_findWinners, Cond.selects RX2 yX2_findWinners yX2_findWinners, Cond.code yX2_findWinners cX2_findWinners 3 none, Cond.methodLink RX2 243 yX2_seek, Cond.instanceMethod yX2_seek, Cond.selects RX2 yX2_seek yX2_seek, Cond.code yX2_seek cX2_seek 8 none, Cond.instanceMethod yX0_consider, Cond.selects RX0 yX0_consider yX0_consider, Cond.code yX0_consider cX0_consider 3 none, Cond.methodLink RX0 16 yX0_isBeatenBy, Cond.instanceMethod yX0_isBeatenBy, Cond.selects RX0 yX0_isBeatenBy yX0_isBeatenBy, Cond.code yX0_isBeatenBy cX0_isBeatenBy 5 (some .boolean), Cond.methodLink RX0 20 yJ6_bitCount_0f7a4, Cond.static yJ6_bitCount_0f7a4, Cond.initialized RJ6]
def wsL_act_r5 : List Cond := [Cond.code yJ6_bitCount_0f7a4 cJ6_bitCount_0f7a4 1 (some .int), Cond.constant RJ6 265 (1431655765), Cond.constant RJ6 266 (858993459), Cond.constant RJ6 267 (252645135), Cond.methodLink RX2 250 yX2_seekWith, Cond.instanceMethod yX2_seekWith, Cond.selects RX2 yX2_seekWith yX2_seekWith, Cond.code yX2_seekWith cX2_seekWith 9 none, Cond.fieldLink RX2 17 "PastureBids" "owners" "[I", Cond.methodLink RX2 113 yX2_counts, Cond.instanceMethod yX2_counts, Cond.selects RX2 yX2_counts yX2_counts, Cond.code yX2_counts cX2_counts 2 (some .boolean), Cond.fieldLink RX2 32 "PastureBids" "withdrawn" "[Z", Cond.fieldLink RX2 13 "PastureBids" "ins" "[Z", Cond.instanceMethod yX0_has, Cond.selects RX0 yX0_has yX0_has, Cond.code yX0_has cX0_has 2 (some .boolean), Cond.methodLink RX2 239 yX2_award, Cond.instanceMethod yX2_award, Cond.selects RX2 yX2_award yX2_award, Cond.code yX2_award cX2_award 5 none, Cond.methodLink RL 42 yX2_join, Cond.instanceMethod yX2_join]
def wsL_act_r6 : List Cond := [Cond.selects RX2 yX2_join yX2_join, Cond.code yX2_join cX2_join 2 (some .int), Cond.methodLink RL 46 yX2_setIn, Cond.instanceMethod yX2_setIn, Cond.selects RX2 yX2_setIn yX2_setIn, Cond.code yX2_setIn cX2_setIn 4 (some .boolean), Cond.methodLink RX2 86 yX2_requireBidder, Cond.instanceMethod yX2_requireBidder, Cond.selects RX2 yX2_requireBidder yX2_requireBidder, Cond.code yX2_requireBidder cX2_requireBidder 2 none, Cond.methodLink RL 50 yX2_setPrice, Cond.instanceMethod yX2_setPrice, Cond.selects RX2 yX2_setPrice yX2_setPrice, Cond.code yX2_setPrice cX2_setPrice 4 (some .int), Cond.methodLink RX2 97 yX2_requireBid, Cond.instanceMethod yX2_requireBid, Cond.selects RX2 yX2_requireBid yX2_requireBid, Cond.code yX2_requireBid cX2_requireBid 2 none, Cond.methodLink RX2 92 yX2_requireAmount, Cond.static yX2_requireAmount, Cond.code yX2_requireAmount cX2_requireAmount 1 none, Cond.methodLink RL 53 yX2_setWorth, Cond.instanceMethod yX2_setWorth, Cond.selects RX2 yX2_setWorth yX2_setWorth]
def wsL_act_r7 : List Cond := [Cond.code yX2_setWorth cX2_setWorth 4 (some .int), Cond.fieldLink RX2 29 "PastureBids" "worths" "[I", Cond.methodLink RL 56 yX2_withdraw, Cond.instanceMethod yX2_withdraw, Cond.selects RX2 yX2_withdraw yX2_withdraw, Cond.code yX2_withdraw cX2_withdraw 2 (some .int), Cond.methodLink RX2 102 yX2_bidsLeft, Cond.instanceMethod yX2_bidsLeft, Cond.selects RX2 yX2_bidsLeft yX2_bidsLeft, Cond.code yX2_bidsLeft cX2_bidsLeft 3 (some .int), Cond.methodLink RX2 123 yX2_bidsLeftOf, Cond.instanceMethod yX2_bidsLeftOf, Cond.selects RX2 yX2_bidsLeftOf yX2_bidsLeftOf, Cond.code yX2_bidsLeftOf cX2_bidsLeftOf 4 (some .int), Cond.methodLink RL 60 yX2_bid, Cond.instanceMethod yX2_bid, Cond.selects RX2 yX2_bid yX2_bid, Cond.code yX2_bid cX2_bid 5 (some .int), Cond.methodLink RX2 89 yX2_requireBundle, Cond.instanceMethod yX2_requireBundle, Cond.selects RX2 yX2_requireBundle yX2_requireBundle, Cond.code yX2_requireBundle cX2_requireBundle 2 none]
def wsL_act : List Cond := .code yL_act cL_act 20 (some .boolean) :: ((wsL_act_r1 ++ (wsL_act_r2 ++ (wsL_act_r3 ++ (wsL_act_r4 ++ (wsL_act_r5 ++ (wsL_act_r6 ++ wsL_act_r7)))))) ++ wsX30 ++ wsX20 ++ wsX10 ++ wsX00 ++ (vx_atS RX2 68 "java/lang/IllegalStateException" ["java/lang/RuntimeException", "java/lang/Exception"]).filter goodWord ++ (vx_atS RX2 221 "java/lang/IllegalArgumentException" ["java/lang/RuntimeException", "java/lang/Exception"]).filter goodWord ++ (vx_atS RX2 210 "java/lang/IndexOutOfBoundsException" ["java/lang/RuntimeException", "java/lang/Exception"]).filter goodWord)
def wsL_build_r1 : List Cond := [Cond.classLink RL 10 RX3, Cond.instantiable RX3 6, Cond.initialized RX3, Cond.fieldLink RL 9 "PastureBidsLaw$Sim" "reserves" "[I", Cond.arrayClass .boolean, Cond.fieldLink RL 15 "PastureBidsLaw$Sim" "isIn" "[Z", Cond.instanceMethod yX3_init, Cond.code yX3_init cX3_init 1 none, Cond.methodLink RX3 1 objectInit, Cond.instanceMethod objectInit, Cond.code objectInit ⟨#[0xb1]⟩ 1 none, Cond.arrayClass .int, Cond.fieldLink RX3 7 "PastureBidsLaw$Sim" "reserves" "[I", Cond.fieldLink RX3 13 "PastureBidsLaw$Sim" "isIn" "[Z", Cond.classLink RX3 17 "[I", Cond.fieldLink RX3 18 "PastureBidsLaw$Sim" "bids" "[[I", Cond.methodLink RL 65 yL_cell, Cond.static yL_cell, Cond.initialized RL, Cond.code yL_cell cL_cell 2 (some .int), Cond.constant RL 8 (790386105), Cond.methodLink RL 23 yL_below, Cond.static yL_below, Cond.code yL_below cL_below 2 (some .int)]
def wsL_build_r2 : List Cond := [Cond.constant RL 7 (2147483647), Cond.methodLink RL 29 yL_with, Cond.static yL_with, Cond.code yL_with cL_with 4 (some (.array .int)), Cond.methodLink RL 33 yX2_field, Cond.instanceMethod yX2_field, Cond.selects RX2 yX2_field yX2_field, Cond.initialized RX2, Cond.code yX2_field cX2_field 3 (some .int), Cond.classLink RX2 64 "java/lang/IllegalStateException", Cond.initialized "java/lang/IllegalStateException", Cond.fieldLink RX2 60 "PastureBids" "fieldCount" "I", Cond.fieldLink RX2 9 "PastureBids" "reserves" "[I", Cond.methodLink RX2 56 yX2_requireReserve, Cond.static yX2_requireReserve, Cond.code yX2_requireReserve cX2_requireReserve 1 none, Cond.classLink RX2 217 "java/lang/IllegalArgumentException", Cond.initialized "java/lang/IllegalArgumentException", Cond.methodLink RL 42 yX2_join, Cond.instanceMethod yX2_join, Cond.selects RX2 yX2_join yX2_join, Cond.code yX2_join cX2_join 2 (some .int), Cond.fieldLink RX2 81 "PastureBids" "bidderCount" "I", Cond.fieldLink RX2 13 "PastureBids" "ins" "[Z"]
def wsL_build_r3 : List Cond := [Cond.fieldLink RX2 38 "PastureBids" "sale" "LPastureBids$Sale;", Cond.methodLink RX2 52 yX2_settle, Cond.instanceMethod yX2_settle, Cond.selects RX2 yX2_settle yX2_settle, Cond.code yX2_settle cX2_settle 4 none, Cond.fieldLink RX2 48 "PastureBids" "search" "LPastureBids$BestSet;", Cond.fieldLink RX2 74 "PastureBids" "bidCount" "I", Cond.instanceMethod yX1_clear, Cond.initialized RX1, Cond.selects RX1 yX1_clear yX1_clear, Cond.code yX1_clear cX1_clear 1 none, Cond.fieldLink RX1 12 "PastureBids$Sale" "winners" "LPastureBids$BestSet;", Cond.fieldLink RX1 18 "PastureBids$Sale" "winningBids" "[I", Cond.fieldLink RX1 22 "PastureBids$Sale" "paid" "[I", Cond.fieldLink RX1 25 "PastureBids$Sale" "gainedWithout" "[I", Cond.instanceMethod yX0_clear, Cond.initialized RX0, Cond.selects RX0 yX0_clear yX0_clear, Cond.code yX0_clear cX0_clear 1 none, Cond.fieldLink RX0 7 "PastureBids$BestSet" "gained" "I", Cond.fieldLink RX0 13 "PastureBids$BestSet" "bids" "I", Cond.methodLink RX1 31 yJ7_fill_53178, Cond.static yJ7_fill_53178, Cond.initialized RJ7]
def wsL_build_r4 : List Cond := [Cond.code yJ7_fill_53178 cJ7_fill_53178 4 none, Cond.methodLink RX2 235 yX2_findWinners, Cond.instanceMethod yX2_findWinners, Cond.selects RX2 yX2_findWinners yX2_findWinners, Cond.code yX2_findWinners cX2_findWinners 3 none, Cond.methodLink RX2 243 yX2_seek, Cond.instanceMethod yX2_seek, Cond.selects RX2 yX2_seek yX2_seek, Cond.code yX2_seek cX2_seek 8 none, Cond.instanceMethod yX0_consider, Cond.selects RX0 yX0_consider yX0_consider, Cond.code yX0_consider cX0_consider 3 none, Cond.methodLink RX0 16 yX0_isBeatenBy, Cond.instanceMethod yX0_isBeatenBy, Cond.selects RX0 yX0_isBeatenBy yX0_isBeatenBy, Cond.code yX0_isBeatenBy cX0_isBeatenBy 5 (some .boolean), Cond.methodLink RX0 20 yJ6_bitCount_0f7a4, Cond.static yJ6_bitCount_0f7a4, Cond.initialized RJ6, Cond.code yJ6_bitCount_0f7a4 cJ6_bitCount_0f7a4 1 (some .int), Cond.constant RJ6 265 (1431655765), Cond.constant RJ6 266 (858993459), Cond.constant RJ6 267 (252645135), Cond.methodLink RX2 250 yX2_seekWith]
def wsL_build_r5 : List Cond := [Cond.instanceMethod yX2_seekWith, Cond.selects RX2 yX2_seekWith yX2_seekWith, Cond.code yX2_seekWith cX2_seekWith 9 none, Cond.fieldLink RX2 17 "PastureBids" "owners" "[I", Cond.fieldLink RX2 20 "PastureBids" "bundles" "[I", Cond.fieldLink RX2 26 "PastureBids" "gains" "[I", Cond.methodLink RX2 113 yX2_counts, Cond.instanceMethod yX2_counts, Cond.selects RX2 yX2_counts yX2_counts, Cond.code yX2_counts cX2_counts 2 (some .boolean), Cond.fieldLink RX2 32 "PastureBids" "withdrawn" "[Z", Cond.instanceMethod yX0_has, Cond.selects RX0 yX0_has yX0_has, Cond.code yX0_has cX0_has 2 (some .boolean), Cond.methodLink RX2 239 yX2_award, Cond.instanceMethod yX2_award, Cond.selects RX2 yX2_award yX2_award, Cond.code yX2_award cX2_award 5 none, Cond.methodLink RX2 226 yX2_reservesOf, Cond.instanceMethod yX2_reservesOf, Cond.selects RX2 yX2_reservesOf yX2_reservesOf, Cond.code yX2_reservesOf cX2_reservesOf 4 (some .int), Cond.methodLink RX2 229 yX2_hasField, Cond.static yX2_hasField]
def wsL_build_r6 : List Cond := [Cond.code yX2_hasField cX2_hasField 2 (some .boolean), Cond.methodLink RL 69 yL_act, Cond.static yL_act, Cond.code yL_act cL_act 20 (some .boolean), Cond.fieldLink RL 19 "PastureBidsLaw$Sim" "bids" "[[I", Cond.classLink RL 59 "[I", Cond.methodLink RL 39 yX2_setReserve, Cond.instanceMethod yX2_setReserve, Cond.selects RX2 yX2_setReserve yX2_setReserve, Cond.code yX2_setReserve cX2_setReserve 5 (some .int), Cond.fieldLink RX2 23 "PastureBids" "prices" "[I", Cond.methodLink RX2 71 yX2_requireField, Cond.instanceMethod yX2_requireField, Cond.selects RX2 yX2_requireField yX2_requireField, Cond.code yX2_requireField cX2_requireField 2 none, Cond.classLink RX2 206 "java/lang/IndexOutOfBoundsException", Cond.initialized "java/lang/IndexOutOfBoundsException", Cond.methodLink RX2 77 yX2_putPrice, Cond.instanceMethod yX2_putPrice, Cond.selects RX2 yX2_putPrice yX2_putPrice, Cond.code yX2_putPrice cX2_putPrice 3 none, Cond.methodLink RL 46 yX2_setIn, Cond.instanceMethod yX2_setIn, Cond.selects RX2 yX2_setIn yX2_setIn]
def wsL_build_r7 : List Cond := [Cond.code yX2_setIn cX2_setIn 4 (some .boolean), Cond.methodLink RX2 86 yX2_requireBidder, Cond.instanceMethod yX2_requireBidder, Cond.selects RX2 yX2_requireBidder yX2_requireBidder, Cond.code yX2_requireBidder cX2_requireBidder 2 none, Cond.methodLink RL 50 yX2_setPrice, Cond.instanceMethod yX2_setPrice, Cond.selects RX2 yX2_setPrice yX2_setPrice, Cond.code yX2_setPrice cX2_setPrice 4 (some .int), Cond.methodLink RX2 97 yX2_requireBid, Cond.instanceMethod yX2_requireBid, Cond.selects RX2 yX2_requireBid yX2_requireBid, Cond.code yX2_requireBid cX2_requireBid 2 none, Cond.methodLink RX2 92 yX2_requireAmount, Cond.static yX2_requireAmount, Cond.code yX2_requireAmount cX2_requireAmount 1 none, Cond.methodLink RL 53 yX2_setWorth, Cond.instanceMethod yX2_setWorth, Cond.selects RX2 yX2_setWorth yX2_setWorth, Cond.code yX2_setWorth cX2_setWorth 4 (some .int), Cond.fieldLink RX2 29 "PastureBids" "worths" "[I", Cond.methodLink RL 56 yX2_withdraw, Cond.instanceMethod yX2_withdraw, Cond.selects RX2 yX2_withdraw yX2_withdraw]
def wsL_build_r8 : List Cond := [Cond.code yX2_withdraw cX2_withdraw 2 (some .int), Cond.methodLink RX2 102 yX2_bidsLeft, Cond.instanceMethod yX2_bidsLeft, Cond.selects RX2 yX2_bidsLeft yX2_bidsLeft, Cond.code yX2_bidsLeft cX2_bidsLeft 3 (some .int), Cond.methodLink RX2 123 yX2_bidsLeftOf, Cond.instanceMethod yX2_bidsLeftOf, Cond.selects RX2 yX2_bidsLeftOf yX2_bidsLeftOf, Cond.code yX2_bidsLeftOf cX2_bidsLeftOf 4 (some .int), Cond.methodLink RL 60 yX2_bid, Cond.instanceMethod yX2_bid, Cond.selects RX2 yX2_bid yX2_bid, Cond.code yX2_bid cX2_bid 5 (some .int), Cond.methodLink RX2 89 yX2_requireBundle, Cond.instanceMethod yX2_requireBundle, Cond.selects RX2 yX2_requireBundle yX2_requireBundle, Cond.code yX2_requireBundle cX2_requireBundle 2 none]
def wsL_build : List Cond := .code yL_build cL_build 7 (some (.object "PastureBidsLaw$Sim")) :: ((wsL_build_r1 ++ (wsL_build_r2 ++ (wsL_build_r3 ++ (wsL_build_r4 ++ (wsL_build_r5 ++ (wsL_build_r6 ++ (wsL_build_r7 ++ wsL_build_r8))))))) ++ wsX30 ++ wsX20 ++ wsX10 ++ wsX00 ++ (vx_atS RX2 68 "java/lang/IllegalStateException" ["java/lang/RuntimeException", "java/lang/Exception"]).filter goodWord ++ (vx_atS RX2 221 "java/lang/IllegalArgumentException" ["java/lang/RuntimeException", "java/lang/Exception"]).filter goodWord ++ (vx_atS RX2 210 "java/lang/IndexOutOfBoundsException" ["java/lang/RuntimeException", "java/lang/Exception"]).filter goodWord)
def wsL_law0_r1 : List Cond := [Cond.classLink RL 34 RX2, Cond.instantiable RX2 14, Cond.initialized RX2, Cond.arrayClass .int, Cond.methodLink RL 73 yX2_init, Cond.instanceMethod yX2_init, Cond.code yX2_init cX2_init 1 none, Cond.methodLink RX2 1 objectInit, Cond.instanceMethod objectInit, Cond.code objectInit ⟨#[0xb1]⟩ 1 none, Cond.fieldLink RX2 9 "PastureBids" "reserves" "[I", Cond.arrayClass .boolean, Cond.fieldLink RX2 13 "PastureBids" "ins" "[Z", Cond.fieldLink RX2 17 "PastureBids" "owners" "[I", Cond.fieldLink RX2 20 "PastureBids" "bundles" "[I", Cond.fieldLink RX2 23 "PastureBids" "prices" "[I", Cond.fieldLink RX2 26 "PastureBids" "gains" "[I", Cond.fieldLink RX2 29 "PastureBids" "worths" "[I", Cond.fieldLink RX2 32 "PastureBids" "withdrawn" "[Z", Cond.classLink RX2 35 RX1, Cond.instantiable RX1 4, Cond.initialized RX1, Cond.fieldLink RX2 38 "PastureBids" "sale" "LPastureBids$Sale;", Cond.fieldLink RX2 42 "PastureBids" "imagined" "LPastureBids$Sale;"]
def wsL_law0_r2 : List Cond := [Cond.classLink RX2 45 RX0, Cond.instantiable RX0 2, Cond.initialized RX0, Cond.fieldLink RX2 48 "PastureBids" "search" "LPastureBids$BestSet;", Cond.instanceMethod yX1_init, Cond.code yX1_init cX1_init 1 none, Cond.methodLink RX1 3 objectInit, Cond.classLink RX1 9 RX0, Cond.fieldLink RX1 12 "PastureBids$Sale" "winners" "LPastureBids$BestSet;", Cond.fieldLink RX1 18 "PastureBids$Sale" "winningBids" "[I", Cond.fieldLink RX1 22 "PastureBids$Sale" "paid" "[I", Cond.fieldLink RX1 25 "PastureBids$Sale" "gainedWithout" "[I", Cond.instanceMethod yX0_init, Cond.code yX0_init cX0_init 1 none, Cond.methodLink RX0 1 objectInit, Cond.methodLink RX2 52 yX2_settle, Cond.instanceMethod yX2_settle, Cond.selects RX2 yX2_settle yX2_settle, Cond.code yX2_settle cX2_settle 4 none, Cond.fieldLink RX2 81 "PastureBids" "bidderCount" "I", Cond.fieldLink RX2 74 "PastureBids" "bidCount" "I", Cond.instanceMethod yX1_clear, Cond.selects RX1 yX1_clear yX1_clear, Cond.code yX1_clear cX1_clear 1 none]
def wsL_law0_r3 : List Cond := [Cond.instanceMethod yX0_clear, Cond.selects RX0 yX0_clear yX0_clear, Cond.code yX0_clear cX0_clear 1 none, Cond.fieldLink RX0 7 "PastureBids$BestSet" "gained" "I", Cond.fieldLink RX0 13 "PastureBids$BestSet" "bids" "I", Cond.methodLink RX1 31 yJ7_fill_53178, Cond.static yJ7_fill_53178, Cond.initialized RJ7, Cond.code yJ7_fill_53178 cJ7_fill_53178 4 none, Cond.methodLink RX2 235 yX2_findWinners, Cond.instanceMethod yX2_findWinners, Cond.selects RX2 yX2_findWinners yX2_findWinners, Cond.code yX2_findWinners cX2_findWinners 3 none, Cond.methodLink RX2 243 yX2_seek, Cond.instanceMethod yX2_seek, Cond.selects RX2 yX2_seek yX2_seek, Cond.code yX2_seek cX2_seek 8 none, Cond.instanceMethod yX0_consider, Cond.selects RX0 yX0_consider yX0_consider, Cond.code yX0_consider cX0_consider 3 none, Cond.methodLink RX0 16 yX0_isBeatenBy, Cond.instanceMethod yX0_isBeatenBy, Cond.selects RX0 yX0_isBeatenBy yX0_isBeatenBy, Cond.code yX0_isBeatenBy cX0_isBeatenBy 5 (some .boolean)]
def wsL_law0_r4 : List Cond := [Cond.methodLink RX0 20 yJ6_bitCount_0f7a4, Cond.static yJ6_bitCount_0f7a4, Cond.initialized RJ6, Cond.code yJ6_bitCount_0f7a4 cJ6_bitCount_0f7a4 1 (some .int), Cond.constant RJ6 265 (1431655765), Cond.constant RJ6 266 (858993459), Cond.constant RJ6 267 (252645135), Cond.methodLink RX2 250 yX2_seekWith, Cond.instanceMethod yX2_seekWith, Cond.selects RX2 yX2_seekWith yX2_seekWith, Cond.code yX2_seekWith cX2_seekWith 9 none, Cond.methodLink RX2 113 yX2_counts, Cond.instanceMethod yX2_counts, Cond.selects RX2 yX2_counts yX2_counts, Cond.code yX2_counts cX2_counts 2 (some .boolean), Cond.instanceMethod yX0_has, Cond.selects RX0 yX0_has yX0_has, Cond.code yX0_has cX0_has 2 (some .boolean), Cond.methodLink RX2 239 yX2_award, Cond.instanceMethod yX2_award, Cond.selects RX2 yX2_award yX2_award, Cond.code yX2_award cX2_award 5 none, Cond.methodLink RX2 226 yX2_reservesOf, Cond.instanceMethod yX2_reservesOf]
def wsL_law0_r5 : List Cond := [Cond.selects RX2 yX2_reservesOf yX2_reservesOf, Cond.code yX2_reservesOf cX2_reservesOf 4 (some .int), Cond.fieldLink RX2 60 "PastureBids" "fieldCount" "I", Cond.methodLink RX2 229 yX2_hasField, Cond.static yX2_hasField, Cond.code yX2_hasField cX2_hasField 2 (some .boolean), Cond.methodLink RL 74 yL_build, Cond.static yL_build, Cond.initialized RL, Cond.code yL_build cL_build 7 (some (.object "PastureBidsLaw$Sim")), Cond.classLink RL 10 RX3, Cond.instantiable RX3 6, Cond.initialized RX3, Cond.fieldLink RL 9 "PastureBidsLaw$Sim" "reserves" "[I", Cond.fieldLink RL 15 "PastureBidsLaw$Sim" "isIn" "[Z", Cond.instanceMethod yX3_init, Cond.code yX3_init cX3_init 1 none, Cond.methodLink RX3 1 objectInit, Cond.fieldLink RX3 7 "PastureBidsLaw$Sim" "reserves" "[I", Cond.fieldLink RX3 13 "PastureBidsLaw$Sim" "isIn" "[Z", Cond.classLink RX3 17 "[I", Cond.fieldLink RX3 18 "PastureBidsLaw$Sim" "bids" "[[I", Cond.methodLink RL 65 yL_cell, Cond.static yL_cell]
def wsL_law0_r6 : List Cond := [Cond.code yL_cell cL_cell 2 (some .int), Cond.constant RL 8 (790386105), Cond.methodLink RL 23 yL_below, Cond.static yL_below, Cond.code yL_below cL_below 2 (some .int), Cond.constant RL 7 (2147483647), Cond.methodLink RL 29 yL_with, Cond.static yL_with, Cond.code yL_with cL_with 4 (some (.array .int)), Cond.methodLink RL 33 yX2_field, Cond.instanceMethod yX2_field, Cond.selects RX2 yX2_field yX2_field, Cond.code yX2_field cX2_field 3 (some .int), Cond.classLink RX2 64 "java/lang/IllegalStateException", Cond.initialized "java/lang/IllegalStateException", Cond.methodLink RX2 56 yX2_requireReserve, Cond.static yX2_requireReserve, Cond.code yX2_requireReserve cX2_requireReserve 1 none, Cond.classLink RX2 217 "java/lang/IllegalArgumentException", Cond.initialized "java/lang/IllegalArgumentException", Cond.methodLink RL 42 yX2_join, Cond.instanceMethod yX2_join, Cond.selects RX2 yX2_join yX2_join, Cond.code yX2_join cX2_join 2 (some .int)]
def wsL_law0_r7 : List Cond := [Cond.methodLink RL 69 yL_act, Cond.static yL_act, Cond.code yL_act cL_act 20 (some .boolean), Cond.fieldLink RL 19 "PastureBidsLaw$Sim" "bids" "[[I", Cond.classLink RL 59 "[I", Cond.methodLink RL 39 yX2_setReserve, Cond.instanceMethod yX2_setReserve, Cond.selects RX2 yX2_setReserve yX2_setReserve, Cond.code yX2_setReserve cX2_setReserve 5 (some .int), Cond.methodLink RX2 71 yX2_requireField, Cond.instanceMethod yX2_requireField, Cond.selects RX2 yX2_requireField yX2_requireField, Cond.code yX2_requireField cX2_requireField 2 none, Cond.classLink RX2 206 "java/lang/IndexOutOfBoundsException", Cond.initialized "java/lang/IndexOutOfBoundsException", Cond.methodLink RX2 77 yX2_putPrice, Cond.instanceMethod yX2_putPrice, Cond.selects RX2 yX2_putPrice yX2_putPrice, Cond.code yX2_putPrice cX2_putPrice 3 none, Cond.methodLink RL 46 yX2_setIn, Cond.instanceMethod yX2_setIn, Cond.selects RX2 yX2_setIn yX2_setIn, Cond.code yX2_setIn cX2_setIn 4 (some .boolean), Cond.methodLink RX2 86 yX2_requireBidder]
def wsL_law0_r8 : List Cond := [Cond.instanceMethod yX2_requireBidder, Cond.selects RX2 yX2_requireBidder yX2_requireBidder, Cond.code yX2_requireBidder cX2_requireBidder 2 none, Cond.methodLink RL 50 yX2_setPrice, Cond.instanceMethod yX2_setPrice, Cond.selects RX2 yX2_setPrice yX2_setPrice, Cond.code yX2_setPrice cX2_setPrice 4 (some .int), Cond.methodLink RX2 97 yX2_requireBid, Cond.instanceMethod yX2_requireBid, Cond.selects RX2 yX2_requireBid yX2_requireBid, Cond.code yX2_requireBid cX2_requireBid 2 none, Cond.methodLink RX2 92 yX2_requireAmount, Cond.static yX2_requireAmount, Cond.code yX2_requireAmount cX2_requireAmount 1 none, Cond.methodLink RL 53 yX2_setWorth, Cond.instanceMethod yX2_setWorth, Cond.selects RX2 yX2_setWorth yX2_setWorth, Cond.code yX2_setWorth cX2_setWorth 4 (some .int), Cond.methodLink RL 56 yX2_withdraw, Cond.instanceMethod yX2_withdraw, Cond.selects RX2 yX2_withdraw yX2_withdraw, Cond.code yX2_withdraw cX2_withdraw 2 (some .int), Cond.methodLink RX2 102 yX2_bidsLeft, Cond.instanceMethod yX2_bidsLeft]
def wsL_law0_r9 : List Cond := [Cond.selects RX2 yX2_bidsLeft yX2_bidsLeft, Cond.code yX2_bidsLeft cX2_bidsLeft 3 (some .int), Cond.methodLink RX2 123 yX2_bidsLeftOf, Cond.instanceMethod yX2_bidsLeftOf, Cond.selects RX2 yX2_bidsLeftOf yX2_bidsLeftOf, Cond.code yX2_bidsLeftOf cX2_bidsLeftOf 4 (some .int), Cond.methodLink RL 60 yX2_bid, Cond.instanceMethod yX2_bid, Cond.selects RX2 yX2_bid yX2_bid, Cond.code yX2_bid cX2_bid 5 (some .int), Cond.methodLink RX2 89 yX2_requireBundle, Cond.instanceMethod yX2_requireBundle, Cond.selects RX2 yX2_requireBundle yX2_requireBundle, Cond.code yX2_requireBundle cX2_requireBundle 2 none, Cond.methodLink RL 78 yX2_count, Cond.instanceMethod yX2_count, Cond.selects RX2 yX2_count yX2_count, Cond.code yX2_count cX2_count 2 (some .int), Cond.methodLink RX2 106 yX2_requireWhat, Cond.static yX2_requireWhat, Cond.code yX2_requireWhat cX2_requireWhat 2 none, Cond.methodLink RX2 155 yJ6_bitCount_0f7a4, Cond.methodLink RX2 160 yX2_soldFields, Cond.instanceMethod yX2_soldFields]
def wsL_law0_r10 : List Cond := [Cond.selects RX2 yX2_soldFields yX2_soldFields, Cond.code yX2_soldFields cX2_soldFields 3 (some .int), Cond.instanceMethod yX1_totalPaid, Cond.selects RX1 yX1_totalPaid yX1_totalPaid, Cond.code yX1_totalPaid cX1_totalPaid 6 (some .int), Cond.methodLink RX2 166 yX2_totalProfit, Cond.instanceMethod yX2_totalProfit, Cond.selects RX2 yX2_totalProfit yX2_totalProfit, Cond.code yX2_totalProfit cX2_totalProfit 3 (some .int), Cond.methodLink RX2 133 yX2_profit, Cond.instanceMethod yX2_profit, Cond.selects RX2 yX2_profit yX2_profit, Cond.code yX2_profit cX2_profit 4 (some .int), Cond.methodLink RX2 169 yX2_winningPrices, Cond.instanceMethod yX2_winningPrices, Cond.selects RX2 yX2_winningPrices yX2_winningPrices, Cond.code yX2_winningPrices cX2_winningPrices 3 (some .int), Cond.methodLink RL 81 yX2_told, Cond.instanceMethod yX2_told, Cond.selects RX2 yX2_told yX2_told, Cond.code yX2_told cX2_told 3 (some .int), Cond.methodLink RX2 109 yX2_asNumber, Cond.static yX2_asNumber, Cond.code yX2_asNumber cX2_asNumber 1 (some .int)]
def wsL_law0_r11 : List Cond := [Cond.methodLink RL 84 yX2_about, Cond.instanceMethod yX2_about, Cond.selects RX2 yX2_about yX2_about, Cond.code yX2_about cX2_about 3 (some .int), Cond.methodLink RL 87 yX2_land, Cond.instanceMethod yX2_land, Cond.selects RX2 yX2_land yX2_land, Cond.code yX2_land cX2_land 3 (some .int), Cond.methodLink RX2 140 yX2_winnerOfField, Cond.instanceMethod yX2_winnerOfField, Cond.selects RX2 yX2_winnerOfField yX2_winnerOfField, Cond.code yX2_winnerOfField cX2_winnerOfField 3 (some .int), Cond.methodLink RX2 143 yX2_ownerOf, Cond.instanceMethod yX2_ownerOf, Cond.selects RX2 yX2_ownerOf yX2_ownerOf, Cond.code yX2_ownerOf cX2_ownerOf 2 (some .int), Cond.methodLink RX2 146 yX2_countingBidsWith, Cond.instanceMethod yX2_countingBidsWith, Cond.selects RX2 yX2_countingBidsWith yX2_countingBidsWith, Cond.code yX2_countingBidsWith cX2_countingBidsWith 4 (some .int), Cond.methodLink RL 90 yX2_mean, Cond.instanceMethod yX2_mean, Cond.selects RX2 yX2_mean yX2_mean, Cond.code yX2_mean cX2_mean 2 (some .double)]
def wsL_law0_r12 : List Cond := [Cond.methodLink RL 94 yX3_isSame, Cond.instanceMethod yX3_isSame, Cond.selects RX3 yX3_isSame yX3_isSame, Cond.code yX3_isSame cX3_isSame 15 (some .boolean), Cond.fieldLink RX3 36 "PastureBidsLaw$Sim" "sum" "I", Cond.fieldLink RX3 40 "PastureBidsLaw$Sim" "many" "I", Cond.methodLink RX3 54 yX3_sale, Cond.instanceMethod yX3_sale, Cond.selects RX3 yX3_sale yX3_sale, Cond.code yX3_sale cX3_sale 2 (some .int), Cond.fieldLink RX3 43 "PastureBidsLaw$Sim" "set" "I", Cond.methodLink RX3 46 yX3_choose, Cond.instanceMethod yX3_choose, Cond.selects RX3 yX3_choose yX3_choose, Cond.code yX3_choose cX3_choose 8 none, Cond.methodLink RX3 50 yX3_counts, Cond.instanceMethod yX3_counts, Cond.selects RX3 yX3_counts yX3_counts, Cond.code yX3_counts cX3_counts 2 (some .boolean), Cond.methodLink RX3 33 yX3_gain, Cond.instanceMethod yX3_gain, Cond.selects RX3 yX3_gain yX3_gain, Cond.code yX3_gain cX3_gain 2 (some .int), Cond.methodLink RX3 29 yX3_reserve]
def wsL_law0_r13 : List Cond := [Cond.instanceMethod yX3_reserve, Cond.selects RX3 yX3_reserve yX3_reserve, Cond.code yX3_reserve cX3_reserve 4 (some .int), Cond.methodLink RX3 63 yX2_told, Cond.methodLink RX3 57 yX3_won, Cond.instanceMethod yX3_won, Cond.selects RX3 yX3_won yX3_won, Cond.code yX3_won cX3_won 4 (some .int), Cond.methodLink RX3 60 yX3_pays, Cond.instanceMethod yX3_pays, Cond.selects RX3 yX3_pays yX3_pays, Cond.code yX3_pays cX3_pays 4 (some .int), Cond.methodLink RX3 69 yX3_profit, Cond.instanceMethod yX3_profit, Cond.selects RX3 yX3_profit yX3_profit, Cond.code yX3_profit cX3_profit 2 (some .int), Cond.methodLink RX3 72 yX2_about, Cond.methodLink RX3 75 yX2_land, Cond.methodLink RX3 78 yX3_alone, Cond.instanceMethod yX3_alone, Cond.selects RX3 yX3_alone yX3_alone, Cond.code yX3_alone cX3_alone 5 (some (.array .int)), Cond.methodLink RX3 82 yX2_alone, Cond.instanceMethod yX2_alone]
def wsL_law0_r14 : List Cond := [Cond.selects RX2 yX2_alone yX2_alone, Cond.code yX2_alone cX2_alone 4 (some .int), Cond.methodLink RX2 172 yX2_highestAlone, Cond.instanceMethod yX2_highestAlone, Cond.selects RX2 yX2_highestAlone yX2_highestAlone, Cond.code yX2_highestAlone cX2_highestAlone 6 (some .int), Cond.methodLink RX2 176 yX2_secondPrice, Cond.instanceMethod yX2_secondPrice, Cond.selects RX2 yX2_secondPrice yX2_secondPrice, Cond.code yX2_secondPrice cX2_secondPrice 4 (some .int), Cond.methodLink RX3 84 yX2_count, Cond.methodLink RX3 87 yX2_mean]
def wsL_law0 : List Cond := (wsL_law0_r1 ++ (wsL_law0_r2 ++ (wsL_law0_r3 ++ (wsL_law0_r4 ++ (wsL_law0_r5 ++ (wsL_law0_r6 ++ (wsL_law0_r7 ++ (wsL_law0_r8 ++ (wsL_law0_r9 ++ (wsL_law0_r10 ++ (wsL_law0_r11 ++ (wsL_law0_r12 ++ (wsL_law0_r13 ++ wsL_law0_r14))))))))))))) ++ wsX20 ++ wsX10 ++ wsX00 ++ wsX30 ++ ([] : List Cond)
def wsL_law : List Cond := wsL_law0 ++ (vx_atS RX2 68 "java/lang/IllegalStateException" ["java/lang/RuntimeException", "java/lang/Exception"]).filter goodWord ++ (vx_atS RX2 221 "java/lang/IllegalArgumentException" ["java/lang/RuntimeException", "java/lang/Exception"]).filter goodWord ++ (vx_atS RX2 210 "java/lang/IndexOutOfBoundsException" ["java/lang/RuntimeException", "java/lang/Exception"]).filter goodWord
theorem inlX0 : ∀ w ∈ wsX00, w ∈ wsL_law := fun _ h => List.mem_append_left _ (List.mem_append_left _ (List.mem_append_left _ (List.mem_append_left _ (List.mem_append_left _ (List.mem_append_right _ h)))))
theorem inlX1 : ∀ w ∈ wsX10, w ∈ wsL_law := fun _ h => List.mem_append_left _ (List.mem_append_left _ (List.mem_append_left _ (List.mem_append_left _ (List.mem_append_left _ (List.mem_append_left _ (List.mem_append_right _ h))))))
theorem inlX2 : ∀ w ∈ wsX20, w ∈ wsL_law := fun _ h => List.mem_append_left _ (List.mem_append_left _ (List.mem_append_left _ (List.mem_append_left _ (List.mem_append_left _ (List.mem_append_left _ (List.mem_append_left _ (List.mem_append_right _ h)))))))
theorem inlX3 : ∀ w ∈ wsX30, w ∈ wsL_law := fun _ h => List.mem_append_left _ (List.mem_append_left _ (List.mem_append_left _ (List.mem_append_left _ (List.mem_append_right _ h))))
abbrev vwCl : List vw_C := [(RX0, TX0, 2), (RX1, TX1, 4), (RX2, TX2, 14), (RX3, TX3, 6)]
end
section
theorem dX0_init_0 : decode cX0_init 0 = .ok (.aload_n 0, 1) := by decide +kernel
theorem dX0_init_1 : decode cX0_init 1 = .ok (.invokespecial 1, 3) := by decide +kernel
theorem dX0_init_4 : decode cX0_init 4 = .ok (.return_, 1) := by decide +kernel
theorem dX0_clear_0 : decode cX0_clear 0 = .ok (.aload_n 0, 1) := by decide +kernel
theorem dX0_clear_1 : decode cX0_clear 1 = .ok (.iconst 0, 1) := by decide +kernel
theorem dX0_clear_2 : decode cX0_clear 2 = .ok (.putfield 7, 3) := by decide +kernel
theorem dX0_clear_5 : decode cX0_clear 5 = .ok (.aload_n 0, 1) := by decide +kernel
theorem dX0_clear_6 : decode cX0_clear 6 = .ok (.iconst 0, 1) := by decide +kernel
theorem dX0_clear_7 : decode cX0_clear 7 = .ok (.putfield 13, 3) := by decide +kernel
theorem dX0_clear_10 : decode cX0_clear 10 = .ok (.return_, 1) := by decide +kernel
set_option maxRecDepth 20000 in
theorem ggX0_consider_X0_isBeatenBy : GoodIn wsX0_consider wsX0_isBeatenBy := goodIn_r _ [7, 1, 2, 8, 9, 10, 11, 12, 13, 14, 15, 16] (by decide +kernel) (by decide +kernel)
set_option maxRecDepth 20000 in
theorem gX0_consider_X0_isBeatenBy : GoodIn wsX0_consider (wsV RX0 16 RX0 yX0_isBeatenBy wsX0_isBeatenBy) := goodIn_app (goodIn_of _ (by decide +kernel)) ggX0_consider_X0_isBeatenBy
theorem dX0_consider_0 : decode cX0_consider 0 = .ok (.aload_n 0, 1) := by decide +kernel
theorem dX0_consider_1 : decode cX0_consider 1 = .ok (.iload_n 1, 1) := by decide +kernel
theorem dX0_consider_2 : decode cX0_consider 2 = .ok (.iload_n 2, 1) := by decide +kernel
theorem dX0_consider_3 : decode cX0_consider 3 = .ok (.invokevirtual 16, 3) := by decide +kernel
theorem dX0_consider_6 : decode cX0_consider 6 = .ok (.ifCond .eq 13, 3) := by decide +kernel
theorem dX0_consider_9 : decode cX0_consider 9 = .ok (.aload_n 0, 1) := by decide +kernel
theorem dX0_consider_10 : decode cX0_consider 10 = .ok (.iload_n 1, 1) := by decide +kernel
theorem dX0_consider_11 : decode cX0_consider 11 = .ok (.putfield 7, 3) := by decide +kernel
theorem dX0_consider_14 : decode cX0_consider 14 = .ok (.aload_n 0, 1) := by decide +kernel
theorem dX0_consider_15 : decode cX0_consider 15 = .ok (.iload_n 2, 1) := by decide +kernel
theorem dX0_consider_16 : decode cX0_consider 16 = .ok (.putfield 13, 3) := by decide +kernel
theorem dX0_consider_19 : decode cX0_consider 19 = .ok (.return_, 1) := by decide +kernel
set_option maxRecDepth 20000 in
theorem ggX0_isBeatenBy_J6_bitCount_0f7a4 : GoodIn wsX0_isBeatenBy wsJ6_bitCount_0f7a4 := goodIn_r _ [6, 7, 8, 9] (by decide +kernel) (by decide +kernel)
set_option maxRecDepth 20000 in
theorem gX0_isBeatenBy_J6_bitCount_0f7a4 : GoodIn wsX0_isBeatenBy (va_wsS RX0 20 yJ6_bitCount_0f7a4 wsJ6_bitCount_0f7a4) := goodIn_app (goodIn_of _ (by decide +kernel)) ggX0_isBeatenBy_J6_bitCount_0f7a4
theorem dX0_isBeatenBy_0 : decode cX0_isBeatenBy 0 = .ok (.iload_n 1, 1) := by decide +kernel
theorem dX0_isBeatenBy_1 : decode cX0_isBeatenBy 1 = .ok (.aload_n 0, 1) := by decide +kernel
theorem dX0_isBeatenBy_2 : decode cX0_isBeatenBy 2 = .ok (.getfield 7, 3) := by decide +kernel
theorem dX0_isBeatenBy_5 : decode cX0_isBeatenBy 5 = .ok (.if_icmp .eq 17, 3) := by decide +kernel
theorem dX0_isBeatenBy_8 : decode cX0_isBeatenBy 8 = .ok (.iload_n 1, 1) := by decide +kernel
theorem dX0_isBeatenBy_9 : decode cX0_isBeatenBy 9 = .ok (.aload_n 0, 1) := by decide +kernel
theorem dX0_isBeatenBy_10 : decode cX0_isBeatenBy 10 = .ok (.getfield 7, 3) := by decide +kernel
theorem dX0_isBeatenBy_13 : decode cX0_isBeatenBy 13 = .ok (.if_icmp .le 7, 3) := by decide +kernel
theorem dX0_isBeatenBy_16 : decode cX0_isBeatenBy 16 = .ok (.iconst 1, 1) := by decide +kernel
theorem dX0_isBeatenBy_17 : decode cX0_isBeatenBy 17 = .ok (.goto 4, 3) := by decide +kernel
theorem dX0_isBeatenBy_20 : decode cX0_isBeatenBy 20 = .ok (.iconst 0, 1) := by decide +kernel
theorem dX0_isBeatenBy_21 : decode cX0_isBeatenBy 21 = .ok (.ireturn, 1) := by decide +kernel
theorem dX0_isBeatenBy_22 : decode cX0_isBeatenBy 22 = .ok (.aload_n 0, 1) := by decide +kernel
theorem dX0_isBeatenBy_23 : decode cX0_isBeatenBy 23 = .ok (.getfield 13, 3) := by decide +kernel
theorem dX0_isBeatenBy_26 : decode cX0_isBeatenBy 26 = .ok (.invokestatic 20, 3) := by decide +kernel
theorem dX0_isBeatenBy_29 : decode cX0_isBeatenBy 29 = .ok (.istore_n 3, 1) := by decide +kernel
theorem dX0_isBeatenBy_30 : decode cX0_isBeatenBy 30 = .ok (.iload_n 2, 1) := by decide +kernel
theorem dX0_isBeatenBy_31 : decode cX0_isBeatenBy 31 = .ok (.invokestatic 20, 3) := by decide +kernel
theorem dX0_isBeatenBy_34 : decode cX0_isBeatenBy 34 = .ok (.istore 4, 2) := by decide +kernel
theorem dX0_isBeatenBy_36 : decode cX0_isBeatenBy 36 = .ok (.iload 4, 2) := by decide +kernel
theorem dX0_isBeatenBy_38 : decode cX0_isBeatenBy 38 = .ok (.iload_n 3, 1) := by decide +kernel
theorem dX0_isBeatenBy_39 : decode cX0_isBeatenBy 39 = .ok (.if_icmp .eq 15, 3) := by decide +kernel
theorem dX0_isBeatenBy_42 : decode cX0_isBeatenBy 42 = .ok (.iload 4, 2) := by decide +kernel
theorem dX0_isBeatenBy_44 : decode cX0_isBeatenBy 44 = .ok (.iload_n 3, 1) := by decide +kernel
theorem dX0_isBeatenBy_45 : decode cX0_isBeatenBy 45 = .ok (.if_icmp .le 7, 3) := by decide +kernel
theorem dX0_isBeatenBy_48 : decode cX0_isBeatenBy 48 = .ok (.iconst 1, 1) := by decide +kernel
theorem dX0_isBeatenBy_49 : decode cX0_isBeatenBy 49 = .ok (.goto 4, 3) := by decide +kernel
theorem dX0_isBeatenBy_52 : decode cX0_isBeatenBy 52 = .ok (.iconst 0, 1) := by decide +kernel
theorem dX0_isBeatenBy_53 : decode cX0_isBeatenBy 53 = .ok (.ireturn, 1) := by decide +kernel
theorem dX0_isBeatenBy_54 : decode cX0_isBeatenBy 54 = .ok (.iload_n 2, 1) := by decide +kernel
theorem dX0_isBeatenBy_55 : decode cX0_isBeatenBy 55 = .ok (.aload_n 0, 1) := by decide +kernel
theorem dX0_isBeatenBy_56 : decode cX0_isBeatenBy 56 = .ok (.getfield 13, 3) := by decide +kernel
theorem dX0_isBeatenBy_59 : decode cX0_isBeatenBy 59 = .ok (.if_icmp .ge 7, 3) := by decide +kernel
theorem dX0_isBeatenBy_62 : decode cX0_isBeatenBy 62 = .ok (.iconst 1, 1) := by decide +kernel
theorem dX0_isBeatenBy_63 : decode cX0_isBeatenBy 63 = .ok (.goto 4, 3) := by decide +kernel
theorem dX0_isBeatenBy_66 : decode cX0_isBeatenBy 66 = .ok (.iconst 0, 1) := by decide +kernel
theorem dX0_isBeatenBy_67 : decode cX0_isBeatenBy 67 = .ok (.ireturn, 1) := by decide +kernel
theorem dX0_has_0 : decode cX0_has 0 = .ok (.aload_n 0, 1) := by decide +kernel
theorem dX0_has_1 : decode cX0_has 1 = .ok (.getfield 13, 3) := by decide +kernel
theorem dX0_has_4 : decode cX0_has 4 = .ok (.iconst 1, 1) := by decide +kernel
theorem dX0_has_5 : decode cX0_has 5 = .ok (.iload_n 1, 1) := by decide +kernel
theorem dX0_has_6 : decode cX0_has 6 = .ok (.ishl, 1) := by decide +kernel
theorem dX0_has_7 : decode cX0_has 7 = .ok (.iand, 1) := by decide +kernel
theorem dX0_has_8 : decode cX0_has 8 = .ok (.ifCond .eq 7, 3) := by decide +kernel
theorem dX0_has_11 : decode cX0_has 11 = .ok (.iconst 1, 1) := by decide +kernel
theorem dX0_has_12 : decode cX0_has 12 = .ok (.goto 4, 3) := by decide +kernel
theorem dX0_has_15 : decode cX0_has 15 = .ok (.iconst 0, 1) := by decide +kernel
theorem dX0_has_16 : decode cX0_has 16 = .ok (.ireturn, 1) := by decide +kernel
set_option maxRecDepth 20000 in
theorem ggX1_init_X0_init : GoodIn wsX1_init wsX0_init := goodIn_r _ [13, 14, 2, 3] (by decide +kernel) (by decide +kernel)
set_option maxRecDepth 20000 in
theorem gX1_init_X0_init_n11 : GoodIn wsX1_init (wsX0_init) := ggX1_init_X0_init
theorem dX1_init_0 : decode cX1_init 0 = .ok (.aload_n 0, 1) := by decide +kernel
theorem dX1_init_1 : decode cX1_init 1 = .ok (.invokespecial 3, 3) := by decide +kernel
theorem dX1_init_4 : decode cX1_init 4 = .ok (.aload_n 0, 1) := by decide +kernel
theorem dX1_init_5 : decode cX1_init 5 = .ok (.new 9, 3) := by decide +kernel
theorem dX1_init_8 : decode cX1_init 8 = .ok (.dup, 1) := by decide +kernel
theorem dX1_init_9 : decode cX1_init 9 = .ok (.invokespecial 11, 3) := by decide +kernel
theorem dX1_init_12 : decode cX1_init 12 = .ok (.putfield 12, 3) := by decide +kernel
theorem dX1_init_15 : decode cX1_init 15 = .ok (.aload_n 0, 1) := by decide +kernel
theorem dX1_init_16 : decode cX1_init 16 = .ok (.iconst 5, 1) := by decide +kernel
theorem dX1_init_17 : decode cX1_init 17 = .ok (.newarray .int, 2) := by decide +kernel
theorem dX1_init_19 : decode cX1_init 19 = .ok (.putfield 18, 3) := by decide +kernel
theorem dX1_init_22 : decode cX1_init 22 = .ok (.aload_n 0, 1) := by decide +kernel
theorem dX1_init_23 : decode cX1_init 23 = .ok (.iconst 5, 1) := by decide +kernel
theorem dX1_init_24 : decode cX1_init 24 = .ok (.newarray .int, 2) := by decide +kernel
theorem dX1_init_26 : decode cX1_init 26 = .ok (.putfield 22, 3) := by decide +kernel
theorem dX1_init_29 : decode cX1_init 29 = .ok (.aload_n 0, 1) := by decide +kernel
theorem dX1_init_30 : decode cX1_init 30 = .ok (.iconst 5, 1) := by decide +kernel
theorem dX1_init_31 : decode cX1_init 31 = .ok (.newarray .int, 2) := by decide +kernel
theorem dX1_init_33 : decode cX1_init 33 = .ok (.putfield 25, 3) := by decide +kernel
theorem dX1_init_36 : decode cX1_init 36 = .ok (.return_, 1) := by decide +kernel
set_option maxRecDepth 20000 in
theorem ggX1_clear_X0_clear : GoodIn wsX1_clear wsX0_clear := goodIn_r _ [8, 9, 10, 19, 20] (by decide +kernel) (by decide +kernel)
set_option maxRecDepth 20000 in
theorem gX1_clear_X0_clear_n28 : GoodIn wsX1_clear (wsX0_clear) := ggX1_clear_X0_clear
set_option maxRecDepth 20000 in
theorem ggX1_clear_J7_fill_53178 : GoodIn wsX1_clear wsJ7_fill_53178 := goodIn_r _ [14] (by decide +kernel) (by decide +kernel)
set_option maxRecDepth 20000 in
theorem gX1_clear_J7_fill_53178 : GoodIn wsX1_clear (va_wsS RX1 31 yJ7_fill_53178 wsJ7_fill_53178) := goodIn_app (goodIn_of _ (by decide +kernel)) ggX1_clear_J7_fill_53178
theorem dX1_clear_0 : decode cX1_clear 0 = .ok (.aload_n 0, 1) := by decide +kernel
theorem dX1_clear_1 : decode cX1_clear 1 = .ok (.getfield 12, 3) := by decide +kernel
theorem dX1_clear_4 : decode cX1_clear 4 = .ok (.invokevirtual 28, 3) := by decide +kernel
theorem dX1_clear_7 : decode cX1_clear 7 = .ok (.aload_n 0, 1) := by decide +kernel
theorem dX1_clear_8 : decode cX1_clear 8 = .ok (.getfield 18, 3) := by decide +kernel
theorem dX1_clear_11 : decode cX1_clear 11 = .ok (.iconst (-1), 1) := by decide +kernel
theorem dX1_clear_12 : decode cX1_clear 12 = .ok (.invokestatic 31, 3) := by decide +kernel
theorem dX1_clear_15 : decode cX1_clear 15 = .ok (.aload_n 0, 1) := by decide +kernel
theorem dX1_clear_16 : decode cX1_clear 16 = .ok (.getfield 22, 3) := by decide +kernel
theorem dX1_clear_19 : decode cX1_clear 19 = .ok (.iconst 0, 1) := by decide +kernel
theorem dX1_clear_20 : decode cX1_clear 20 = .ok (.invokestatic 31, 3) := by decide +kernel
theorem dX1_clear_23 : decode cX1_clear 23 = .ok (.aload_n 0, 1) := by decide +kernel
theorem dX1_clear_24 : decode cX1_clear 24 = .ok (.getfield 25, 3) := by decide +kernel
theorem dX1_clear_27 : decode cX1_clear 27 = .ok (.iconst 0, 1) := by decide +kernel
theorem dX1_clear_28 : decode cX1_clear 28 = .ok (.invokestatic 31, 3) := by decide +kernel
theorem dX1_clear_31 : decode cX1_clear 31 = .ok (.return_, 1) := by decide +kernel
theorem dX1_totalPaid_0 : decode cX1_totalPaid 0 = .ok (.iconst 0, 1) := by decide +kernel
theorem dX1_totalPaid_1 : decode cX1_totalPaid 1 = .ok (.istore_n 1, 1) := by decide +kernel
theorem dX1_totalPaid_2 : decode cX1_totalPaid 2 = .ok (.aload_n 0, 1) := by decide +kernel
theorem dX1_totalPaid_3 : decode cX1_totalPaid 3 = .ok (.getfield 22, 3) := by decide +kernel
theorem dX1_totalPaid_6 : decode cX1_totalPaid 6 = .ok (.astore_n 2, 1) := by decide +kernel
theorem dX1_totalPaid_7 : decode cX1_totalPaid 7 = .ok (.aload_n 2, 1) := by decide +kernel
theorem dX1_totalPaid_8 : decode cX1_totalPaid 8 = .ok (.arraylength, 1) := by decide +kernel
theorem dX1_totalPaid_9 : decode cX1_totalPaid 9 = .ok (.istore_n 3, 1) := by decide +kernel
theorem dX1_totalPaid_10 : decode cX1_totalPaid 10 = .ok (.iconst 0, 1) := by decide +kernel
theorem dX1_totalPaid_11 : decode cX1_totalPaid 11 = .ok (.istore 4, 2) := by decide +kernel
theorem dX1_totalPaid_13 : decode cX1_totalPaid 13 = .ok (.iload 4, 2) := by decide +kernel
theorem dX1_totalPaid_15 : decode cX1_totalPaid 15 = .ok (.iload_n 3, 1) := by decide +kernel
theorem dX1_totalPaid_16 : decode cX1_totalPaid 16 = .ok (.if_icmp .ge 20, 3) := by decide +kernel
theorem dX1_totalPaid_19 : decode cX1_totalPaid 19 = .ok (.aload_n 2, 1) := by decide +kernel
theorem dX1_totalPaid_20 : decode cX1_totalPaid 20 = .ok (.iload 4, 2) := by decide +kernel
theorem dX1_totalPaid_22 : decode cX1_totalPaid 22 = .ok (.iaload, 1) := by decide +kernel
theorem dX1_totalPaid_23 : decode cX1_totalPaid 23 = .ok (.istore 5, 2) := by decide +kernel
theorem dX1_totalPaid_25 : decode cX1_totalPaid 25 = .ok (.iload_n 1, 1) := by decide +kernel
theorem dX1_totalPaid_26 : decode cX1_totalPaid 26 = .ok (.iload 5, 2) := by decide +kernel
theorem dX1_totalPaid_28 : decode cX1_totalPaid 28 = .ok (.iadd, 1) := by decide +kernel
theorem dX1_totalPaid_29 : decode cX1_totalPaid 29 = .ok (.istore_n 1, 1) := by decide +kernel
theorem dX1_totalPaid_30 : decode cX1_totalPaid 30 = .ok (.iinc 4 1, 3) := by decide +kernel
theorem dX1_totalPaid_33 : decode cX1_totalPaid 33 = .ok (.goto (-20), 3) := by decide +kernel
theorem dX1_totalPaid_36 : decode cX1_totalPaid 36 = .ok (.iload_n 1, 1) := by decide +kernel
theorem dX1_totalPaid_37 : decode cX1_totalPaid 37 = .ok (.ireturn, 1) := by decide +kernel
theorem dJ6_bitCount_0f7a4_0 : decode cJ6_bitCount_0f7a4 0 = .ok (.iload_n 0, 1) := by decide +kernel
theorem dJ6_bitCount_0f7a4_1 : decode cJ6_bitCount_0f7a4 1 = .ok (.iload_n 0, 1) := by decide +kernel
theorem dJ6_bitCount_0f7a4_2 : decode cJ6_bitCount_0f7a4 2 = .ok (.iconst 1, 1) := by decide +kernel
theorem dJ6_bitCount_0f7a4_3 : decode cJ6_bitCount_0f7a4 3 = .ok (.iushr, 1) := by decide +kernel
theorem dJ6_bitCount_0f7a4_4 : decode cJ6_bitCount_0f7a4 4 = .ok (.ldc_w 265, 3) := by decide +kernel
theorem dJ6_bitCount_0f7a4_7 : decode cJ6_bitCount_0f7a4 7 = .ok (.iand, 1) := by decide +kernel
theorem dJ6_bitCount_0f7a4_8 : decode cJ6_bitCount_0f7a4 8 = .ok (.isub, 1) := by decide +kernel
theorem dJ6_bitCount_0f7a4_9 : decode cJ6_bitCount_0f7a4 9 = .ok (.istore_n 0, 1) := by decide +kernel
theorem dJ6_bitCount_0f7a4_10 : decode cJ6_bitCount_0f7a4 10 = .ok (.iload_n 0, 1) := by decide +kernel
theorem dJ6_bitCount_0f7a4_11 : decode cJ6_bitCount_0f7a4 11 = .ok (.ldc_w 266, 3) := by decide +kernel
theorem dJ6_bitCount_0f7a4_14 : decode cJ6_bitCount_0f7a4 14 = .ok (.iand, 1) := by decide +kernel
theorem dJ6_bitCount_0f7a4_15 : decode cJ6_bitCount_0f7a4 15 = .ok (.iload_n 0, 1) := by decide +kernel
theorem dJ6_bitCount_0f7a4_16 : decode cJ6_bitCount_0f7a4 16 = .ok (.iconst 2, 1) := by decide +kernel
theorem dJ6_bitCount_0f7a4_17 : decode cJ6_bitCount_0f7a4 17 = .ok (.iushr, 1) := by decide +kernel
theorem dJ6_bitCount_0f7a4_18 : decode cJ6_bitCount_0f7a4 18 = .ok (.ldc_w 266, 3) := by decide +kernel
theorem dJ6_bitCount_0f7a4_21 : decode cJ6_bitCount_0f7a4 21 = .ok (.iand, 1) := by decide +kernel
theorem dJ6_bitCount_0f7a4_22 : decode cJ6_bitCount_0f7a4 22 = .ok (.iadd, 1) := by decide +kernel
theorem dJ6_bitCount_0f7a4_23 : decode cJ6_bitCount_0f7a4 23 = .ok (.istore_n 0, 1) := by decide +kernel
theorem dJ6_bitCount_0f7a4_24 : decode cJ6_bitCount_0f7a4 24 = .ok (.iload_n 0, 1) := by decide +kernel
theorem dJ6_bitCount_0f7a4_25 : decode cJ6_bitCount_0f7a4 25 = .ok (.iload_n 0, 1) := by decide +kernel
theorem dJ6_bitCount_0f7a4_26 : decode cJ6_bitCount_0f7a4 26 = .ok (.iconst 4, 1) := by decide +kernel
theorem dJ6_bitCount_0f7a4_27 : decode cJ6_bitCount_0f7a4 27 = .ok (.iushr, 1) := by decide +kernel
theorem dJ6_bitCount_0f7a4_28 : decode cJ6_bitCount_0f7a4 28 = .ok (.iadd, 1) := by decide +kernel
theorem dJ6_bitCount_0f7a4_29 : decode cJ6_bitCount_0f7a4 29 = .ok (.ldc_w 267, 3) := by decide +kernel
theorem dJ6_bitCount_0f7a4_32 : decode cJ6_bitCount_0f7a4 32 = .ok (.iand, 1) := by decide +kernel
theorem dJ6_bitCount_0f7a4_33 : decode cJ6_bitCount_0f7a4 33 = .ok (.istore_n 0, 1) := by decide +kernel
theorem dJ6_bitCount_0f7a4_34 : decode cJ6_bitCount_0f7a4 34 = .ok (.iload_n 0, 1) := by decide +kernel
theorem dJ6_bitCount_0f7a4_35 : decode cJ6_bitCount_0f7a4 35 = .ok (.iload_n 0, 1) := by decide +kernel
theorem dJ6_bitCount_0f7a4_36 : decode cJ6_bitCount_0f7a4 36 = .ok (.bipush 8, 2) := by decide +kernel
theorem dJ6_bitCount_0f7a4_38 : decode cJ6_bitCount_0f7a4 38 = .ok (.iushr, 1) := by decide +kernel
theorem dJ6_bitCount_0f7a4_39 : decode cJ6_bitCount_0f7a4 39 = .ok (.iadd, 1) := by decide +kernel
theorem dJ6_bitCount_0f7a4_40 : decode cJ6_bitCount_0f7a4 40 = .ok (.istore_n 0, 1) := by decide +kernel
theorem dJ6_bitCount_0f7a4_41 : decode cJ6_bitCount_0f7a4 41 = .ok (.iload_n 0, 1) := by decide +kernel
theorem dJ6_bitCount_0f7a4_42 : decode cJ6_bitCount_0f7a4 42 = .ok (.iload_n 0, 1) := by decide +kernel
theorem dJ6_bitCount_0f7a4_43 : decode cJ6_bitCount_0f7a4 43 = .ok (.bipush 16, 2) := by decide +kernel
theorem dJ6_bitCount_0f7a4_45 : decode cJ6_bitCount_0f7a4 45 = .ok (.iushr, 1) := by decide +kernel
theorem dJ6_bitCount_0f7a4_46 : decode cJ6_bitCount_0f7a4 46 = .ok (.iadd, 1) := by decide +kernel
theorem dJ6_bitCount_0f7a4_47 : decode cJ6_bitCount_0f7a4 47 = .ok (.istore_n 0, 1) := by decide +kernel
theorem dJ6_bitCount_0f7a4_48 : decode cJ6_bitCount_0f7a4 48 = .ok (.iload_n 0, 1) := by decide +kernel
theorem dJ6_bitCount_0f7a4_49 : decode cJ6_bitCount_0f7a4 49 = .ok (.bipush 63, 2) := by decide +kernel
theorem dJ6_bitCount_0f7a4_51 : decode cJ6_bitCount_0f7a4 51 = .ok (.iand, 1) := by decide +kernel
theorem dJ6_bitCount_0f7a4_52 : decode cJ6_bitCount_0f7a4 52 = .ok (.ireturn, 1) := by decide +kernel
theorem dJ7_fill_53178_0 : decode cJ7_fill_53178 0 = .ok (.iconst 0, 1) := by decide +kernel
theorem dJ7_fill_53178_1 : decode cJ7_fill_53178 1 = .ok (.istore_n 2, 1) := by decide +kernel
theorem dJ7_fill_53178_2 : decode cJ7_fill_53178 2 = .ok (.aload_n 0, 1) := by decide +kernel
theorem dJ7_fill_53178_3 : decode cJ7_fill_53178 3 = .ok (.arraylength, 1) := by decide +kernel
theorem dJ7_fill_53178_4 : decode cJ7_fill_53178 4 = .ok (.istore_n 3, 1) := by decide +kernel
theorem dJ7_fill_53178_5 : decode cJ7_fill_53178 5 = .ok (.iload_n 2, 1) := by decide +kernel
theorem dJ7_fill_53178_6 : decode cJ7_fill_53178 6 = .ok (.iload_n 3, 1) := by decide +kernel
theorem dJ7_fill_53178_7 : decode cJ7_fill_53178 7 = .ok (.if_icmp .ge 13, 3) := by decide +kernel
theorem dJ7_fill_53178_10 : decode cJ7_fill_53178 10 = .ok (.aload_n 0, 1) := by decide +kernel
theorem dJ7_fill_53178_11 : decode cJ7_fill_53178 11 = .ok (.iload_n 2, 1) := by decide +kernel
theorem dJ7_fill_53178_12 : decode cJ7_fill_53178 12 = .ok (.iload_n 1, 1) := by decide +kernel
theorem dJ7_fill_53178_13 : decode cJ7_fill_53178 13 = .ok (.iastore, 1) := by decide +kernel
theorem dJ7_fill_53178_14 : decode cJ7_fill_53178 14 = .ok (.iinc 2 1, 3) := by decide +kernel
theorem dJ7_fill_53178_17 : decode cJ7_fill_53178 17 = .ok (.goto (-12), 3) := by decide +kernel
theorem dJ7_fill_53178_20 : decode cJ7_fill_53178 20 = .ok (.return_, 1) := by decide +kernel
end
section
set_option maxRecDepth 20000 in
theorem ggX2_init_X1_init : GoodIn wsX2_init wsX1_init := goodIn_r _ [24, 25, 2, 3, 26, 20, 21, 27, 4, 28, 29, 30, 31, 32, 33, 116, 117, 112, 113, 114, 115] (by decide +kernel) (by decide +kernel)
set_option maxRecDepth 20000 in
theorem gX2_init_X1_init_n37 : GoodIn wsX2_init (wsX1_init) := ggX2_init_X1_init
set_option maxRecDepth 20000 in
theorem ggX2_init_X0_init : GoodIn wsX2_init wsX0_init := goodIn_r _ [32, 33, 2, 3] (by decide +kernel) (by decide +kernel)
set_option maxRecDepth 20000 in
theorem gX2_init_X0_init_n47 : GoodIn wsX2_init (wsX0_init) := ggX2_init_X0_init
set_option maxRecDepth 20000 in
theorem ggX2_init_X2_settle : GoodIn wsX2_init wsX2_settle := goodIn_r _ [38, 39, 22, 40, 41, 16, 42, 43, 27, 28, 29, 30, 44, 21, 45, 46, 47, 48, 49, 50, 51, 52, 53, 54, 55, 37, 56, 57, 58, 59, 60, 61, 62, 63, 64, 65, 66, 67, 68, 69, 70, 71, 72, 73, 74, 75, 76, 77, 78, 8, 9, 11, 79, 80, 81, 82, 13, 7, 83, 84, 85, 86, 87, 88, 89, 90, 91, 92, 93, 94, 5, 95, 96, 97, 112, 113, 114, 115, 98, 99, 100, 101, 102, 103, 104, 105, 106, 107, 108, 109, 110, 111, 116, 117] (by decide +kernel) (by decide +kernel)
set_option maxRecDepth 20000 in
theorem gX2_init_X2_settle : GoodIn wsX2_init (wsV RX2 52 RX2 yX2_settle wsX2_settle) := goodIn_app (goodIn_of _ (by decide +kernel)) ggX2_init_X2_settle
theorem dX2_init_0 : decode cX2_init 0 = .ok (.aload_n 0, 1) := by decide +kernel
theorem dX2_init_1 : decode cX2_init 1 = .ok (.invokespecial 1, 3) := by decide +kernel
theorem dX2_init_4 : decode cX2_init 4 = .ok (.aload_n 0, 1) := by decide +kernel
theorem dX2_init_5 : decode cX2_init 5 = .ok (.bipush 8, 2) := by decide +kernel
theorem dX2_init_7 : decode cX2_init 7 = .ok (.newarray .int, 2) := by decide +kernel
theorem dX2_init_9 : decode cX2_init 9 = .ok (.putfield 9, 3) := by decide +kernel
theorem dX2_init_12 : decode cX2_init 12 = .ok (.aload_n 0, 1) := by decide +kernel
theorem dX2_init_13 : decode cX2_init 13 = .ok (.iconst 5, 1) := by decide +kernel
theorem dX2_init_14 : decode cX2_init 14 = .ok (.newarray .boolean, 2) := by decide +kernel
theorem dX2_init_16 : decode cX2_init 16 = .ok (.putfield 13, 3) := by decide +kernel
theorem dX2_init_19 : decode cX2_init 19 = .ok (.aload_n 0, 1) := by decide +kernel
theorem dX2_init_20 : decode cX2_init 20 = .ok (.bipush 12, 2) := by decide +kernel
theorem dX2_init_22 : decode cX2_init 22 = .ok (.newarray .int, 2) := by decide +kernel
theorem dX2_init_24 : decode cX2_init 24 = .ok (.putfield 17, 3) := by decide +kernel
theorem dX2_init_27 : decode cX2_init 27 = .ok (.aload_n 0, 1) := by decide +kernel
theorem dX2_init_28 : decode cX2_init 28 = .ok (.bipush 12, 2) := by decide +kernel
theorem dX2_init_30 : decode cX2_init 30 = .ok (.newarray .int, 2) := by decide +kernel
theorem dX2_init_32 : decode cX2_init 32 = .ok (.putfield 20, 3) := by decide +kernel
theorem dX2_init_35 : decode cX2_init 35 = .ok (.aload_n 0, 1) := by decide +kernel
theorem dX2_init_36 : decode cX2_init 36 = .ok (.bipush 12, 2) := by decide +kernel
theorem dX2_init_38 : decode cX2_init 38 = .ok (.newarray .int, 2) := by decide +kernel
theorem dX2_init_40 : decode cX2_init 40 = .ok (.putfield 23, 3) := by decide +kernel
theorem dX2_init_43 : decode cX2_init 43 = .ok (.aload_n 0, 1) := by decide +kernel
theorem dX2_init_44 : decode cX2_init 44 = .ok (.bipush 12, 2) := by decide +kernel
theorem dX2_init_46 : decode cX2_init 46 = .ok (.newarray .int, 2) := by decide +kernel
theorem dX2_init_48 : decode cX2_init 48 = .ok (.putfield 26, 3) := by decide +kernel
theorem dX2_init_51 : decode cX2_init 51 = .ok (.aload_n 0, 1) := by decide +kernel
theorem dX2_init_52 : decode cX2_init 52 = .ok (.bipush 12, 2) := by decide +kernel
theorem dX2_init_54 : decode cX2_init 54 = .ok (.newarray .int, 2) := by decide +kernel
theorem dX2_init_56 : decode cX2_init 56 = .ok (.putfield 29, 3) := by decide +kernel
theorem dX2_init_59 : decode cX2_init 59 = .ok (.aload_n 0, 1) := by decide +kernel
theorem dX2_init_60 : decode cX2_init 60 = .ok (.bipush 12, 2) := by decide +kernel
theorem dX2_init_62 : decode cX2_init 62 = .ok (.newarray .boolean, 2) := by decide +kernel
theorem dX2_init_64 : decode cX2_init 64 = .ok (.putfield 32, 3) := by decide +kernel
theorem dX2_init_67 : decode cX2_init 67 = .ok (.aload_n 0, 1) := by decide +kernel
theorem dX2_init_68 : decode cX2_init 68 = .ok (.new 35, 3) := by decide +kernel
theorem dX2_init_71 : decode cX2_init 71 = .ok (.dup, 1) := by decide +kernel
theorem dX2_init_72 : decode cX2_init 72 = .ok (.invokespecial 37, 3) := by decide +kernel
theorem dX2_init_75 : decode cX2_init 75 = .ok (.putfield 38, 3) := by decide +kernel
theorem dX2_init_78 : decode cX2_init 78 = .ok (.aload_n 0, 1) := by decide +kernel
theorem dX2_init_79 : decode cX2_init 79 = .ok (.new 35, 3) := by decide +kernel
theorem dX2_init_82 : decode cX2_init 82 = .ok (.dup, 1) := by decide +kernel
theorem dX2_init_83 : decode cX2_init 83 = .ok (.invokespecial 37, 3) := by decide +kernel
theorem dX2_init_86 : decode cX2_init 86 = .ok (.putfield 42, 3) := by decide +kernel
theorem dX2_init_89 : decode cX2_init 89 = .ok (.aload_n 0, 1) := by decide +kernel
theorem dX2_init_90 : decode cX2_init 90 = .ok (.new 45, 3) := by decide +kernel
theorem dX2_init_93 : decode cX2_init 93 = .ok (.dup, 1) := by decide +kernel
theorem dX2_init_94 : decode cX2_init 94 = .ok (.invokespecial 47, 3) := by decide +kernel
theorem dX2_init_97 : decode cX2_init 97 = .ok (.putfield 48, 3) := by decide +kernel
theorem dX2_init_100 : decode cX2_init 100 = .ok (.aload_n 0, 1) := by decide +kernel
theorem dX2_init_101 : decode cX2_init 101 = .ok (.aload_n 0, 1) := by decide +kernel
theorem dX2_init_102 : decode cX2_init 102 = .ok (.getfield 38, 3) := by decide +kernel
theorem dX2_init_105 : decode cX2_init 105 = .ok (.iconst 0, 1) := by decide +kernel
theorem dX2_init_106 : decode cX2_init 106 = .ok (.invokevirtual 52, 3) := by decide +kernel
theorem dX2_init_109 : decode cX2_init 109 = .ok (.return_, 1) := by decide +kernel
set_option maxRecDepth 20000 in
theorem ggX2_field_X2_requireReserve : GoodIn wsX2_field wsX2_requireReserve := goodIn_ca (goodIn_r _ [8, 9, 10] (by decide +kernel) (by decide +kernel)) (goodIn_sub (fun _ h => List.mem_cons_of_mem _ (List.mem_append_right _ h)) (by decide +kernel))
set_option maxRecDepth 20000 in
theorem gX2_field_X2_requireReserve : GoodIn wsX2_field (va_wsS RX2 56 yX2_requireReserve wsX2_requireReserve) := goodIn_app (goodIn_of _ (by decide +kernel)) ggX2_field_X2_requireReserve
theorem dX2_field_0 : decode cX2_field 0 = .ok (.iload_n 1, 1) := by decide +kernel
theorem dX2_field_1 : decode cX2_field 1 = .ok (.invokestatic 56, 3) := by decide +kernel
theorem dX2_field_4 : decode cX2_field 4 = .ok (.aload_n 0, 1) := by decide +kernel
theorem dX2_field_5 : decode cX2_field 5 = .ok (.getfield 60, 3) := by decide +kernel
theorem dX2_field_8 : decode cX2_field 8 = .ok (.bipush 8, 2) := by decide +kernel
theorem dX2_field_10 : decode cX2_field 10 = .ok (.if_icmp .lt 13, 3) := by decide +kernel
theorem dX2_field_13 : decode cX2_field 13 = .ok (.new 64, 3) := by decide +kernel
theorem dX2_field_16 : decode cX2_field 16 = .ok (.dup, 1) := by decide +kernel
theorem dX2_field_17 : decode cX2_field 17 = .ok (.ldc 66, 2) := by decide +kernel
theorem dX2_field_19 : decode cX2_field 19 = .ok (.invokespecial 68, 3) := by decide +kernel
theorem dX2_field_22 : decode cX2_field 22 = .ok (.athrow, 1) := by decide +kernel
theorem dX2_field_23 : decode cX2_field 23 = .ok (.aload_n 0, 1) := by decide +kernel
theorem dX2_field_24 : decode cX2_field 24 = .ok (.getfield 60, 3) := by decide +kernel
theorem dX2_field_27 : decode cX2_field 27 = .ok (.istore_n 2, 1) := by decide +kernel
theorem dX2_field_28 : decode cX2_field 28 = .ok (.aload_n 0, 1) := by decide +kernel
theorem dX2_field_29 : decode cX2_field 29 = .ok (.getfield 9, 3) := by decide +kernel
theorem dX2_field_32 : decode cX2_field 32 = .ok (.iload_n 2, 1) := by decide +kernel
theorem dX2_field_33 : decode cX2_field 33 = .ok (.iload_n 1, 1) := by decide +kernel
theorem dX2_field_34 : decode cX2_field 34 = .ok (.iastore, 1) := by decide +kernel
theorem dX2_field_35 : decode cX2_field 35 = .ok (.aload_n 0, 1) := by decide +kernel
theorem dX2_field_36 : decode cX2_field 36 = .ok (.dup, 1) := by decide +kernel
theorem dX2_field_37 : decode cX2_field 37 = .ok (.getfield 60, 3) := by decide +kernel
theorem dX2_field_40 : decode cX2_field 40 = .ok (.iconst 1, 1) := by decide +kernel
theorem dX2_field_41 : decode cX2_field 41 = .ok (.iadd, 1) := by decide +kernel
theorem dX2_field_42 : decode cX2_field 42 = .ok (.putfield 60, 3) := by decide +kernel
theorem dX2_field_45 : decode cX2_field 45 = .ok (.iload_n 2, 1) := by decide +kernel
theorem dX2_field_46 : decode cX2_field 46 = .ok (.ireturn, 1) := by decide +kernel
set_option maxRecDepth 20000 in
theorem ggX2_setReserve_X2_requireField : GoodIn wsX2_setReserve wsX2_requireField := goodIn_ca (goodIn_r _ [9, 10, 11, 12, 95, 96, 97, 98, 99, 100, 101, 102, 103, 104, 105, 106, 107, 108] (by decide +kernel) (by decide +kernel)) (goodIn_sub (fun _ h => List.mem_cons_of_mem _ (List.mem_append_left _ (List.mem_append_right _ h))) (by decide +kernel))
set_option maxRecDepth 20000 in
theorem gX2_setReserve_X2_requireField : GoodIn wsX2_setReserve (wsV RX2 71 RX2 yX2_requireField wsX2_requireField) := goodIn_app (goodIn_of _ (by decide +kernel)) ggX2_setReserve_X2_requireField
set_option maxRecDepth 20000 in
theorem ggX2_setReserve_X2_requireReserve : GoodIn wsX2_setReserve wsX2_requireReserve := goodIn_ca (goodIn_r _ [15, 16, 17] (by decide +kernel) (by decide +kernel)) (goodIn_sub (fun _ h => List.mem_cons_of_mem _ (List.mem_append_right _ h)) (by decide +kernel))
set_option maxRecDepth 20000 in
theorem gX2_setReserve_X2_requireReserve : GoodIn wsX2_setReserve (va_wsS RX2 56 yX2_requireReserve wsX2_requireReserve) := goodIn_app (goodIn_of _ (by decide +kernel)) ggX2_setReserve_X2_requireReserve
set_option maxRecDepth 20000 in
theorem ggX2_setReserve_X2_putPrice : GoodIn wsX2_setReserve wsX2_putPrice := goodIn_r _ [21, 3, 22, 23, 24, 25, 26, 8, 27, 12, 1, 28, 29, 30, 95, 96, 97, 98, 99, 100, 101, 102, 103, 104, 105, 106, 107, 108] (by decide +kernel) (by decide +kernel)
set_option maxRecDepth 20000 in
theorem gX2_setReserve_X2_putPrice : GoodIn wsX2_setReserve (wsV RX2 77 RX2 yX2_putPrice wsX2_putPrice) := goodIn_app (goodIn_of _ (by decide +kernel)) ggX2_setReserve_X2_putPrice
set_option maxRecDepth 20000 in
theorem ggX2_setReserve_X2_settle : GoodIn wsX2_setReserve wsX2_settle := goodIn_r _ [34, 35, 36, 2, 37, 38, 39, 40, 41, 42, 43, 44, 45, 46, 47, 48, 49, 50, 51, 52, 53, 54, 55, 56, 57, 8, 58, 59, 60, 61, 62, 63, 64, 65, 66, 67, 68, 69, 70, 71, 72, 73, 74, 75, 76, 77, 78, 79, 80, 81, 23, 22, 82, 83, 84, 85, 86, 87, 88, 89, 90, 91, 92, 93, 94, 24, 25, 26, 27, 12, 1, 28, 29, 30, 109, 110, 111, 112, 95, 96, 97, 98, 99, 100, 101, 102, 103, 104, 105, 106, 107, 108, 113, 114] (by decide +kernel) (by decide +kernel)
set_option maxRecDepth 20000 in
theorem gX2_setReserve_X2_settle : GoodIn wsX2_setReserve (wsV RX2 52 RX2 yX2_settle wsX2_settle) := goodIn_app (goodIn_of _ (by decide +kernel)) ggX2_setReserve_X2_settle
theorem dX2_setReserve_0 : decode cX2_setReserve 0 = .ok (.aload_n 0, 1) := by decide +kernel
theorem dX2_setReserve_1 : decode cX2_setReserve 1 = .ok (.iload_n 1, 1) := by decide +kernel
theorem dX2_setReserve_2 : decode cX2_setReserve 2 = .ok (.invokevirtual 71, 3) := by decide +kernel
theorem dX2_setReserve_5 : decode cX2_setReserve 5 = .ok (.iload_n 2, 1) := by decide +kernel
theorem dX2_setReserve_6 : decode cX2_setReserve 6 = .ok (.invokestatic 56, 3) := by decide +kernel
theorem dX2_setReserve_9 : decode cX2_setReserve 9 = .ok (.aload_n 0, 1) := by decide +kernel
theorem dX2_setReserve_10 : decode cX2_setReserve 10 = .ok (.getfield 9, 3) := by decide +kernel
theorem dX2_setReserve_13 : decode cX2_setReserve 13 = .ok (.iload_n 1, 1) := by decide +kernel
theorem dX2_setReserve_14 : decode cX2_setReserve 14 = .ok (.iaload, 1) := by decide +kernel
theorem dX2_setReserve_15 : decode cX2_setReserve 15 = .ok (.istore_n 3, 1) := by decide +kernel
theorem dX2_setReserve_16 : decode cX2_setReserve 16 = .ok (.aload_n 0, 1) := by decide +kernel
theorem dX2_setReserve_17 : decode cX2_setReserve 17 = .ok (.getfield 9, 3) := by decide +kernel
theorem dX2_setReserve_20 : decode cX2_setReserve 20 = .ok (.iload_n 1, 1) := by decide +kernel
theorem dX2_setReserve_21 : decode cX2_setReserve 21 = .ok (.iload_n 2, 1) := by decide +kernel
theorem dX2_setReserve_22 : decode cX2_setReserve 22 = .ok (.iastore, 1) := by decide +kernel
theorem dX2_setReserve_23 : decode cX2_setReserve 23 = .ok (.iconst 0, 1) := by decide +kernel
theorem dX2_setReserve_24 : decode cX2_setReserve 24 = .ok (.istore 4, 2) := by decide +kernel
theorem dX2_setReserve_26 : decode cX2_setReserve 26 = .ok (.iload 4, 2) := by decide +kernel
theorem dX2_setReserve_28 : decode cX2_setReserve 28 = .ok (.aload_n 0, 1) := by decide +kernel
theorem dX2_setReserve_29 : decode cX2_setReserve 29 = .ok (.getfield 74, 3) := by decide +kernel
theorem dX2_setReserve_32 : decode cX2_setReserve 32 = .ok (.if_icmp .ge 22, 3) := by decide +kernel
theorem dX2_setReserve_35 : decode cX2_setReserve 35 = .ok (.aload_n 0, 1) := by decide +kernel
theorem dX2_setReserve_36 : decode cX2_setReserve 36 = .ok (.iload 4, 2) := by decide +kernel
theorem dX2_setReserve_38 : decode cX2_setReserve 38 = .ok (.aload_n 0, 1) := by decide +kernel
theorem dX2_setReserve_39 : decode cX2_setReserve 39 = .ok (.getfield 23, 3) := by decide +kernel
theorem dX2_setReserve_42 : decode cX2_setReserve 42 = .ok (.iload 4, 2) := by decide +kernel
theorem dX2_setReserve_44 : decode cX2_setReserve 44 = .ok (.iaload, 1) := by decide +kernel
theorem dX2_setReserve_45 : decode cX2_setReserve 45 = .ok (.invokevirtual 77, 3) := by decide +kernel
theorem dX2_setReserve_48 : decode cX2_setReserve 48 = .ok (.iinc 4 1, 3) := by decide +kernel
theorem dX2_setReserve_51 : decode cX2_setReserve 51 = .ok (.goto (-25), 3) := by decide +kernel
theorem dX2_setReserve_54 : decode cX2_setReserve 54 = .ok (.aload_n 0, 1) := by decide +kernel
theorem dX2_setReserve_55 : decode cX2_setReserve 55 = .ok (.aload_n 0, 1) := by decide +kernel
theorem dX2_setReserve_56 : decode cX2_setReserve 56 = .ok (.getfield 38, 3) := by decide +kernel
theorem dX2_setReserve_59 : decode cX2_setReserve 59 = .ok (.iconst 0, 1) := by decide +kernel
theorem dX2_setReserve_60 : decode cX2_setReserve 60 = .ok (.invokevirtual 52, 3) := by decide +kernel
theorem dX2_setReserve_63 : decode cX2_setReserve 63 = .ok (.iload_n 3, 1) := by decide +kernel
theorem dX2_setReserve_64 : decode cX2_setReserve 64 = .ok (.ireturn, 1) := by decide +kernel
set_option maxRecDepth 20000 in
theorem ggX2_join_X2_settle : GoodIn wsX2_join wsX2_settle := goodIn_r _ [10, 3, 11, 12, 13, 14, 15, 16, 17, 18, 19, 20, 21, 22, 23, 24, 25, 26, 27, 28, 29, 30, 31, 32, 33, 9, 34, 35, 36, 37, 38, 39, 40, 41, 42, 43, 44, 45, 46, 47, 48, 49, 50, 51, 52, 53, 54, 55, 56, 57, 58, 59, 60, 61, 62, 63, 64, 4, 65, 66, 67, 68, 69, 70, 71, 72, 73, 74, 75, 76, 77, 78, 79, 80, 95, 96, 97, 98, 81, 82, 83, 84, 85, 86, 87, 88, 89, 90, 91, 92, 93, 94, 99, 100] (by decide +kernel) (by decide +kernel)
set_option maxRecDepth 20000 in
theorem gX2_join_X2_settle : GoodIn wsX2_join (wsV RX2 52 RX2 yX2_settle wsX2_settle) := goodIn_app (goodIn_of _ (by decide +kernel)) ggX2_join_X2_settle
theorem dX2_join_0 : decode cX2_join 0 = .ok (.aload_n 0, 1) := by decide +kernel
theorem dX2_join_1 : decode cX2_join 1 = .ok (.getfield 81, 3) := by decide +kernel
theorem dX2_join_4 : decode cX2_join 4 = .ok (.iconst 5, 1) := by decide +kernel
theorem dX2_join_5 : decode cX2_join 5 = .ok (.if_icmp .lt 13, 3) := by decide +kernel
theorem dX2_join_8 : decode cX2_join 8 = .ok (.new 64, 3) := by decide +kernel
theorem dX2_join_11 : decode cX2_join 11 = .ok (.dup, 1) := by decide +kernel
theorem dX2_join_12 : decode cX2_join 12 = .ok (.ldc 84, 2) := by decide +kernel
theorem dX2_join_14 : decode cX2_join 14 = .ok (.invokespecial 68, 3) := by decide +kernel
theorem dX2_join_17 : decode cX2_join 17 = .ok (.athrow, 1) := by decide +kernel
theorem dX2_join_18 : decode cX2_join 18 = .ok (.aload_n 0, 1) := by decide +kernel
theorem dX2_join_19 : decode cX2_join 19 = .ok (.getfield 81, 3) := by decide +kernel
theorem dX2_join_22 : decode cX2_join 22 = .ok (.istore_n 1, 1) := by decide +kernel
theorem dX2_join_23 : decode cX2_join 23 = .ok (.aload_n 0, 1) := by decide +kernel
theorem dX2_join_24 : decode cX2_join 24 = .ok (.getfield 13, 3) := by decide +kernel
theorem dX2_join_27 : decode cX2_join 27 = .ok (.iload_n 1, 1) := by decide +kernel
theorem dX2_join_28 : decode cX2_join 28 = .ok (.iconst 1, 1) := by decide +kernel
theorem dX2_join_29 : decode cX2_join 29 = .ok (.bastore, 1) := by decide +kernel
theorem dX2_join_30 : decode cX2_join 30 = .ok (.aload_n 0, 1) := by decide +kernel
theorem dX2_join_31 : decode cX2_join 31 = .ok (.dup, 1) := by decide +kernel
theorem dX2_join_32 : decode cX2_join 32 = .ok (.getfield 81, 3) := by decide +kernel
theorem dX2_join_35 : decode cX2_join 35 = .ok (.iconst 1, 1) := by decide +kernel
theorem dX2_join_36 : decode cX2_join 36 = .ok (.iadd, 1) := by decide +kernel
theorem dX2_join_37 : decode cX2_join 37 = .ok (.putfield 81, 3) := by decide +kernel
theorem dX2_join_40 : decode cX2_join 40 = .ok (.aload_n 0, 1) := by decide +kernel
theorem dX2_join_41 : decode cX2_join 41 = .ok (.aload_n 0, 1) := by decide +kernel
theorem dX2_join_42 : decode cX2_join 42 = .ok (.getfield 38, 3) := by decide +kernel
theorem dX2_join_45 : decode cX2_join 45 = .ok (.iconst 0, 1) := by decide +kernel
theorem dX2_join_46 : decode cX2_join 46 = .ok (.invokevirtual 52, 3) := by decide +kernel
theorem dX2_join_49 : decode cX2_join 49 = .ok (.iload_n 1, 1) := by decide +kernel
theorem dX2_join_50 : decode cX2_join 50 = .ok (.ireturn, 1) := by decide +kernel
set_option maxRecDepth 20000 in
theorem ggX2_setIn_X2_requireBidder : GoodIn wsX2_setIn wsX2_requireBidder := goodIn_ca (goodIn_r _ [7, 8, 9, 10, 85, 86, 87, 88, 89, 90, 91, 92, 93, 94, 95, 96, 97, 98] (by decide +kernel) (by decide +kernel)) (goodIn_sub (fun _ h => List.mem_cons_of_mem _ (List.mem_append_right _ h)) (by decide +kernel))
set_option maxRecDepth 20000 in
theorem gX2_setIn_X2_requireBidder : GoodIn wsX2_setIn (wsV RX2 86 RX2 yX2_requireBidder wsX2_requireBidder) := goodIn_app (goodIn_of _ (by decide +kernel)) ggX2_setIn_X2_requireBidder
set_option maxRecDepth 20000 in
theorem ggX2_setIn_X2_settle : GoodIn wsX2_setIn wsX2_settle := goodIn_r _ [14, 10, 15, 16, 17, 18, 19, 20, 21, 22, 23, 24, 25, 26, 27, 28, 29, 30, 31, 32, 33, 34, 35, 36, 37, 6, 38, 39, 40, 41, 42, 43, 44, 45, 46, 47, 48, 49, 50, 51, 52, 53, 54, 55, 56, 57, 58, 59, 60, 61, 62, 63, 64, 65, 66, 67, 68, 1, 69, 70, 71, 72, 73, 74, 75, 76, 77, 78, 79, 80, 81, 82, 83, 84, 99, 100, 101, 102, 85, 86, 87, 88, 89, 90, 91, 92, 93, 94, 95, 96, 97, 98, 103, 104] (by decide +kernel) (by decide +kernel)
set_option maxRecDepth 20000 in
theorem gX2_setIn_X2_settle : GoodIn wsX2_setIn (wsV RX2 52 RX2 yX2_settle wsX2_settle) := goodIn_app (goodIn_of _ (by decide +kernel)) ggX2_setIn_X2_settle
theorem dX2_setIn_0 : decode cX2_setIn 0 = .ok (.aload_n 0, 1) := by decide +kernel
theorem dX2_setIn_1 : decode cX2_setIn 1 = .ok (.iload_n 1, 1) := by decide +kernel
theorem dX2_setIn_2 : decode cX2_setIn 2 = .ok (.invokevirtual 86, 3) := by decide +kernel
theorem dX2_setIn_5 : decode cX2_setIn 5 = .ok (.aload_n 0, 1) := by decide +kernel
theorem dX2_setIn_6 : decode cX2_setIn 6 = .ok (.getfield 13, 3) := by decide +kernel
theorem dX2_setIn_9 : decode cX2_setIn 9 = .ok (.iload_n 1, 1) := by decide +kernel
theorem dX2_setIn_10 : decode cX2_setIn 10 = .ok (.baload, 1) := by decide +kernel
theorem dX2_setIn_11 : decode cX2_setIn 11 = .ok (.istore_n 3, 1) := by decide +kernel
theorem dX2_setIn_12 : decode cX2_setIn 12 = .ok (.aload_n 0, 1) := by decide +kernel
theorem dX2_setIn_13 : decode cX2_setIn 13 = .ok (.getfield 13, 3) := by decide +kernel
theorem dX2_setIn_16 : decode cX2_setIn 16 = .ok (.iload_n 1, 1) := by decide +kernel
theorem dX2_setIn_17 : decode cX2_setIn 17 = .ok (.iload_n 2, 1) := by decide +kernel
theorem dX2_setIn_18 : decode cX2_setIn 18 = .ok (.bastore, 1) := by decide +kernel
theorem dX2_setIn_19 : decode cX2_setIn 19 = .ok (.aload_n 0, 1) := by decide +kernel
theorem dX2_setIn_20 : decode cX2_setIn 20 = .ok (.aload_n 0, 1) := by decide +kernel
theorem dX2_setIn_21 : decode cX2_setIn 21 = .ok (.getfield 38, 3) := by decide +kernel
theorem dX2_setIn_24 : decode cX2_setIn 24 = .ok (.iconst 0, 1) := by decide +kernel
theorem dX2_setIn_25 : decode cX2_setIn 25 = .ok (.invokevirtual 52, 3) := by decide +kernel
theorem dX2_setIn_28 : decode cX2_setIn 28 = .ok (.iload_n 3, 1) := by decide +kernel
theorem dX2_setIn_29 : decode cX2_setIn 29 = .ok (.ireturn, 1) := by decide +kernel
set_option maxRecDepth 20000 in
theorem ggX2_bid_X2_requireBidder : GoodIn wsX2_bid wsX2_requireBidder := goodIn_ca (goodIn_r _ [12, 13, 14, 15, 102, 103, 104, 105, 106, 107, 108, 109, 110, 111, 112, 113, 114, 115] (by decide +kernel) (by decide +kernel)) (goodIn_sub (fun _ h => List.mem_cons_of_mem _ (List.mem_append_left _ (List.mem_append_right _ h))) (by decide +kernel))
set_option maxRecDepth 20000 in
theorem gX2_bid_X2_requireBidder : GoodIn wsX2_bid (wsV RX2 86 RX2 yX2_requireBidder wsX2_requireBidder) := goodIn_app (goodIn_of _ (by decide +kernel)) ggX2_bid_X2_requireBidder
set_option maxRecDepth 20000 in
theorem ggX2_bid_X2_requireBundle : GoodIn wsX2_bid wsX2_requireBundle := goodIn_ca (goodIn_r _ [19, 20, 21, 22, 102, 103, 104, 105, 106, 107, 108, 109, 110, 111, 112, 113, 114, 115] (by decide +kernel) (by decide +kernel)) (goodIn_sub (fun _ h => List.mem_cons_of_mem _ (List.mem_append_right _ h)) (by decide +kernel))
set_option maxRecDepth 20000 in
theorem gX2_bid_X2_requireBundle : GoodIn wsX2_bid (wsV RX2 89 RX2 yX2_requireBundle wsX2_requireBundle) := goodIn_app (goodIn_of _ (by decide +kernel)) ggX2_bid_X2_requireBundle
set_option maxRecDepth 20000 in
theorem ggX2_bid_X2_requireAmount : GoodIn wsX2_bid wsX2_requireAmount := goodIn_ca (goodIn_r _ [25, 20, 21] (by decide +kernel) (by decide +kernel)) (goodIn_sub (fun _ h => List.mem_cons_of_mem _ (List.mem_append_right _ h)) (by decide +kernel))
set_option maxRecDepth 20000 in
theorem gX2_bid_X2_requireAmount : GoodIn wsX2_bid (va_wsS RX2 92 yX2_requireAmount wsX2_requireAmount) := goodIn_app (goodIn_of _ (by decide +kernel)) ggX2_bid_X2_requireAmount
set_option maxRecDepth 20000 in
theorem ggX2_bid_X2_putPrice : GoodIn wsX2_bid wsX2_putPrice := goodIn_r _ [29, 30, 31, 5, 32, 33, 34, 11, 35, 22, 36, 37, 38, 39, 102, 103, 104, 105, 106, 107, 108, 109, 110, 111, 112, 113, 114, 115] (by decide +kernel) (by decide +kernel)
set_option maxRecDepth 20000 in
theorem gX2_bid_X2_putPrice : GoodIn wsX2_bid (wsV RX2 77 RX2 yX2_putPrice wsX2_putPrice) := goodIn_app (goodIn_of _ (by decide +kernel)) ggX2_bid_X2_putPrice
set_option maxRecDepth 20000 in
theorem ggX2_bid_X2_settle : GoodIn wsX2_bid wsX2_settle := goodIn_r _ [43, 15, 44, 3, 45, 46, 47, 48, 49, 50, 51, 52, 53, 54, 55, 56, 57, 58, 59, 60, 61, 62, 63, 64, 65, 11, 66, 67, 68, 69, 70, 71, 72, 73, 74, 75, 76, 77, 78, 79, 80, 81, 82, 83, 84, 85, 86, 87, 88, 4, 5, 31, 89, 90, 91, 92, 93, 94, 95, 96, 97, 98, 99, 100, 101, 32, 33, 34, 35, 22, 36, 37, 38, 39, 116, 117, 118, 119, 102, 103, 104, 105, 106, 107, 108, 109, 110, 111, 112, 113, 114, 115, 120, 121] (by decide +kernel) (by decide +kernel)
set_option maxRecDepth 20000 in
theorem gX2_bid_X2_settle : GoodIn wsX2_bid (wsV RX2 52 RX2 yX2_settle wsX2_settle) := goodIn_app (goodIn_of _ (by decide +kernel)) ggX2_bid_X2_settle
theorem dX2_bid_0 : decode cX2_bid 0 = .ok (.aload_n 0, 1) := by decide +kernel
theorem dX2_bid_1 : decode cX2_bid 1 = .ok (.iload_n 1, 1) := by decide +kernel
theorem dX2_bid_2 : decode cX2_bid 2 = .ok (.invokevirtual 86, 3) := by decide +kernel
theorem dX2_bid_5 : decode cX2_bid 5 = .ok (.aload_n 0, 1) := by decide +kernel
theorem dX2_bid_6 : decode cX2_bid 6 = .ok (.iload_n 2, 1) := by decide +kernel
theorem dX2_bid_7 : decode cX2_bid 7 = .ok (.invokevirtual 89, 3) := by decide +kernel
theorem dX2_bid_10 : decode cX2_bid 10 = .ok (.iload_n 3, 1) := by decide +kernel
theorem dX2_bid_11 : decode cX2_bid 11 = .ok (.invokestatic 92, 3) := by decide +kernel
theorem dX2_bid_14 : decode cX2_bid 14 = .ok (.aload_n 0, 1) := by decide +kernel
theorem dX2_bid_15 : decode cX2_bid 15 = .ok (.getfield 74, 3) := by decide +kernel
theorem dX2_bid_18 : decode cX2_bid 18 = .ok (.bipush 12, 2) := by decide +kernel
theorem dX2_bid_20 : decode cX2_bid 20 = .ok (.if_icmp .lt 13, 3) := by decide +kernel
theorem dX2_bid_23 : decode cX2_bid 23 = .ok (.new 64, 3) := by decide +kernel
theorem dX2_bid_26 : decode cX2_bid 26 = .ok (.dup, 1) := by decide +kernel
theorem dX2_bid_27 : decode cX2_bid 27 = .ok (.ldc 95, 2) := by decide +kernel
theorem dX2_bid_29 : decode cX2_bid 29 = .ok (.invokespecial 68, 3) := by decide +kernel
theorem dX2_bid_32 : decode cX2_bid 32 = .ok (.athrow, 1) := by decide +kernel
theorem dX2_bid_33 : decode cX2_bid 33 = .ok (.aload_n 0, 1) := by decide +kernel
theorem dX2_bid_34 : decode cX2_bid 34 = .ok (.getfield 74, 3) := by decide +kernel
theorem dX2_bid_37 : decode cX2_bid 37 = .ok (.istore 4, 2) := by decide +kernel
theorem dX2_bid_39 : decode cX2_bid 39 = .ok (.aload_n 0, 1) := by decide +kernel
theorem dX2_bid_40 : decode cX2_bid 40 = .ok (.getfield 17, 3) := by decide +kernel
theorem dX2_bid_43 : decode cX2_bid 43 = .ok (.iload 4, 2) := by decide +kernel
theorem dX2_bid_45 : decode cX2_bid 45 = .ok (.iload_n 1, 1) := by decide +kernel
theorem dX2_bid_46 : decode cX2_bid 46 = .ok (.iastore, 1) := by decide +kernel
theorem dX2_bid_47 : decode cX2_bid 47 = .ok (.aload_n 0, 1) := by decide +kernel
theorem dX2_bid_48 : decode cX2_bid 48 = .ok (.getfield 20, 3) := by decide +kernel
theorem dX2_bid_51 : decode cX2_bid 51 = .ok (.iload 4, 2) := by decide +kernel
theorem dX2_bid_53 : decode cX2_bid 53 = .ok (.iload_n 2, 1) := by decide +kernel
theorem dX2_bid_54 : decode cX2_bid 54 = .ok (.iastore, 1) := by decide +kernel
theorem dX2_bid_55 : decode cX2_bid 55 = .ok (.aload_n 0, 1) := by decide +kernel
theorem dX2_bid_56 : decode cX2_bid 56 = .ok (.getfield 29, 3) := by decide +kernel
theorem dX2_bid_59 : decode cX2_bid 59 = .ok (.iload 4, 2) := by decide +kernel
theorem dX2_bid_61 : decode cX2_bid 61 = .ok (.iload_n 3, 1) := by decide +kernel
theorem dX2_bid_62 : decode cX2_bid 62 = .ok (.iastore, 1) := by decide +kernel
theorem dX2_bid_63 : decode cX2_bid 63 = .ok (.aload_n 0, 1) := by decide +kernel
theorem dX2_bid_64 : decode cX2_bid 64 = .ok (.iload 4, 2) := by decide +kernel
theorem dX2_bid_66 : decode cX2_bid 66 = .ok (.iload_n 3, 1) := by decide +kernel
theorem dX2_bid_67 : decode cX2_bid 67 = .ok (.invokevirtual 77, 3) := by decide +kernel
theorem dX2_bid_70 : decode cX2_bid 70 = .ok (.aload_n 0, 1) := by decide +kernel
theorem dX2_bid_71 : decode cX2_bid 71 = .ok (.dup, 1) := by decide +kernel
theorem dX2_bid_72 : decode cX2_bid 72 = .ok (.getfield 74, 3) := by decide +kernel
theorem dX2_bid_75 : decode cX2_bid 75 = .ok (.iconst 1, 1) := by decide +kernel
theorem dX2_bid_76 : decode cX2_bid 76 = .ok (.iadd, 1) := by decide +kernel
theorem dX2_bid_77 : decode cX2_bid 77 = .ok (.putfield 74, 3) := by decide +kernel
theorem dX2_bid_80 : decode cX2_bid 80 = .ok (.aload_n 0, 1) := by decide +kernel
theorem dX2_bid_81 : decode cX2_bid 81 = .ok (.aload_n 0, 1) := by decide +kernel
theorem dX2_bid_82 : decode cX2_bid 82 = .ok (.getfield 38, 3) := by decide +kernel
theorem dX2_bid_85 : decode cX2_bid 85 = .ok (.iconst 0, 1) := by decide +kernel
theorem dX2_bid_86 : decode cX2_bid 86 = .ok (.invokevirtual 52, 3) := by decide +kernel
theorem dX2_bid_89 : decode cX2_bid 89 = .ok (.iload 4, 2) := by decide +kernel
theorem dX2_bid_91 : decode cX2_bid 91 = .ok (.ireturn, 1) := by decide +kernel
set_option maxRecDepth 20000 in
theorem ggX2_setPrice_X2_requireBid : GoodIn wsX2_setPrice wsX2_requireBid := goodIn_ca (goodIn_r _ [7, 8, 9, 10, 95, 96, 97, 98, 99, 100, 101, 102, 103, 104, 105, 106, 107, 108] (by decide +kernel) (by decide +kernel)) (goodIn_sub (fun _ h => List.mem_cons_of_mem _ (List.mem_append_left _ (List.mem_append_right _ h))) (by decide +kernel))
set_option maxRecDepth 20000 in
theorem gX2_setPrice_X2_requireBid : GoodIn wsX2_setPrice (wsV RX2 97 RX2 yX2_requireBid wsX2_requireBid) := goodIn_app (goodIn_of _ (by decide +kernel)) ggX2_setPrice_X2_requireBid
set_option maxRecDepth 20000 in
theorem ggX2_setPrice_X2_requireAmount : GoodIn wsX2_setPrice wsX2_requireAmount := goodIn_ca (goodIn_r _ [13, 14, 15] (by decide +kernel) (by decide +kernel)) (goodIn_sub (fun _ h => List.mem_cons_of_mem _ (List.mem_append_right _ h)) (by decide +kernel))
set_option maxRecDepth 20000 in
theorem gX2_setPrice_X2_requireAmount : GoodIn wsX2_setPrice (va_wsS RX2 92 yX2_requireAmount wsX2_requireAmount) := goodIn_app (goodIn_of _ (by decide +kernel)) ggX2_setPrice_X2_requireAmount
set_option maxRecDepth 20000 in
theorem ggX2_setPrice_X2_putPrice : GoodIn wsX2_setPrice wsX2_putPrice := goodIn_r _ [19, 1, 20, 21, 22, 23, 24, 6, 25, 26, 27, 28, 29, 30, 95, 96, 97, 98, 99, 100, 101, 102, 103, 104, 105, 106, 107, 108] (by decide +kernel) (by decide +kernel)
set_option maxRecDepth 20000 in
theorem gX2_setPrice_X2_putPrice : GoodIn wsX2_setPrice (wsV RX2 77 RX2 yX2_putPrice wsX2_putPrice) := goodIn_app (goodIn_of _ (by decide +kernel)) ggX2_setPrice_X2_putPrice
set_option maxRecDepth 20000 in
theorem ggX2_setPrice_X2_settle : GoodIn wsX2_setPrice wsX2_settle := goodIn_r _ [34, 35, 36, 10, 37, 38, 39, 40, 41, 42, 43, 44, 45, 46, 47, 48, 49, 50, 51, 52, 53, 54, 55, 56, 57, 6, 58, 59, 60, 61, 62, 63, 64, 65, 66, 67, 68, 69, 70, 71, 72, 73, 74, 75, 76, 77, 78, 79, 80, 81, 21, 20, 82, 83, 84, 85, 86, 87, 88, 89, 90, 91, 92, 93, 94, 22, 23, 24, 25, 26, 27, 28, 29, 30, 109, 110, 111, 112, 95, 96, 97, 98, 99, 100, 101, 102, 103, 104, 105, 106, 107, 108, 113, 114] (by decide +kernel) (by decide +kernel)
set_option maxRecDepth 20000 in
theorem gX2_setPrice_X2_settle : GoodIn wsX2_setPrice (wsV RX2 52 RX2 yX2_settle wsX2_settle) := goodIn_app (goodIn_of _ (by decide +kernel)) ggX2_setPrice_X2_settle
theorem dX2_setPrice_0 : decode cX2_setPrice 0 = .ok (.aload_n 0, 1) := by decide +kernel
theorem dX2_setPrice_1 : decode cX2_setPrice 1 = .ok (.iload_n 1, 1) := by decide +kernel
theorem dX2_setPrice_2 : decode cX2_setPrice 2 = .ok (.invokevirtual 97, 3) := by decide +kernel
theorem dX2_setPrice_5 : decode cX2_setPrice 5 = .ok (.iload_n 2, 1) := by decide +kernel
theorem dX2_setPrice_6 : decode cX2_setPrice 6 = .ok (.invokestatic 92, 3) := by decide +kernel
theorem dX2_setPrice_9 : decode cX2_setPrice 9 = .ok (.aload_n 0, 1) := by decide +kernel
theorem dX2_setPrice_10 : decode cX2_setPrice 10 = .ok (.getfield 23, 3) := by decide +kernel
theorem dX2_setPrice_13 : decode cX2_setPrice 13 = .ok (.iload_n 1, 1) := by decide +kernel
theorem dX2_setPrice_14 : decode cX2_setPrice 14 = .ok (.iaload, 1) := by decide +kernel
theorem dX2_setPrice_15 : decode cX2_setPrice 15 = .ok (.istore_n 3, 1) := by decide +kernel
theorem dX2_setPrice_16 : decode cX2_setPrice 16 = .ok (.aload_n 0, 1) := by decide +kernel
theorem dX2_setPrice_17 : decode cX2_setPrice 17 = .ok (.iload_n 1, 1) := by decide +kernel
theorem dX2_setPrice_18 : decode cX2_setPrice 18 = .ok (.iload_n 2, 1) := by decide +kernel
theorem dX2_setPrice_19 : decode cX2_setPrice 19 = .ok (.invokevirtual 77, 3) := by decide +kernel
theorem dX2_setPrice_22 : decode cX2_setPrice 22 = .ok (.aload_n 0, 1) := by decide +kernel
theorem dX2_setPrice_23 : decode cX2_setPrice 23 = .ok (.aload_n 0, 1) := by decide +kernel
theorem dX2_setPrice_24 : decode cX2_setPrice 24 = .ok (.getfield 38, 3) := by decide +kernel
theorem dX2_setPrice_27 : decode cX2_setPrice 27 = .ok (.iconst 0, 1) := by decide +kernel
theorem dX2_setPrice_28 : decode cX2_setPrice 28 = .ok (.invokevirtual 52, 3) := by decide +kernel
theorem dX2_setPrice_31 : decode cX2_setPrice 31 = .ok (.iload_n 3, 1) := by decide +kernel
theorem dX2_setPrice_32 : decode cX2_setPrice 32 = .ok (.ireturn, 1) := by decide +kernel
set_option maxRecDepth 20000 in
theorem ggX2_setWorth_X2_requireBid : GoodIn wsX2_setWorth wsX2_requireBid := goodIn_ca (goodIn_r _ [6, 7, 8, 9, 15, 16, 17, 18, 19, 20, 21, 22, 23, 24, 25, 26, 27, 28] (by decide +kernel) (by decide +kernel)) (goodIn_sub (fun _ h => List.mem_cons_of_mem _ (List.mem_append_left _ (List.mem_append_right _ h))) (by decide +kernel))
set_option maxRecDepth 20000 in
theorem gX2_setWorth_X2_requireBid : GoodIn wsX2_setWorth (wsV RX2 97 RX2 yX2_requireBid wsX2_requireBid) := goodIn_app (goodIn_of _ (by decide +kernel)) ggX2_setWorth_X2_requireBid
set_option maxRecDepth 20000 in
theorem ggX2_setWorth_X2_requireAmount : GoodIn wsX2_setWorth wsX2_requireAmount := goodIn_ca (goodIn_r _ [12, 13, 14] (by decide +kernel) (by decide +kernel)) (goodIn_sub (fun _ h => List.mem_cons_of_mem _ (List.mem_append_right _ h)) (by decide +kernel))
set_option maxRecDepth 20000 in
theorem gX2_setWorth_X2_requireAmount : GoodIn wsX2_setWorth (va_wsS RX2 92 yX2_requireAmount wsX2_requireAmount) := goodIn_app (goodIn_of _ (by decide +kernel)) ggX2_setWorth_X2_requireAmount
theorem dX2_setWorth_0 : decode cX2_setWorth 0 = .ok (.aload_n 0, 1) := by decide +kernel
theorem dX2_setWorth_1 : decode cX2_setWorth 1 = .ok (.iload_n 1, 1) := by decide +kernel
theorem dX2_setWorth_2 : decode cX2_setWorth 2 = .ok (.invokevirtual 97, 3) := by decide +kernel
theorem dX2_setWorth_5 : decode cX2_setWorth 5 = .ok (.iload_n 2, 1) := by decide +kernel
theorem dX2_setWorth_6 : decode cX2_setWorth 6 = .ok (.invokestatic 92, 3) := by decide +kernel
theorem dX2_setWorth_9 : decode cX2_setWorth 9 = .ok (.aload_n 0, 1) := by decide +kernel
theorem dX2_setWorth_10 : decode cX2_setWorth 10 = .ok (.getfield 29, 3) := by decide +kernel
theorem dX2_setWorth_13 : decode cX2_setWorth 13 = .ok (.iload_n 1, 1) := by decide +kernel
theorem dX2_setWorth_14 : decode cX2_setWorth 14 = .ok (.iaload, 1) := by decide +kernel
theorem dX2_setWorth_15 : decode cX2_setWorth 15 = .ok (.istore_n 3, 1) := by decide +kernel
theorem dX2_setWorth_16 : decode cX2_setWorth 16 = .ok (.aload_n 0, 1) := by decide +kernel
theorem dX2_setWorth_17 : decode cX2_setWorth 17 = .ok (.getfield 29, 3) := by decide +kernel
theorem dX2_setWorth_20 : decode cX2_setWorth 20 = .ok (.iload_n 1, 1) := by decide +kernel
theorem dX2_setWorth_21 : decode cX2_setWorth 21 = .ok (.iload_n 2, 1) := by decide +kernel
theorem dX2_setWorth_22 : decode cX2_setWorth 22 = .ok (.iastore, 1) := by decide +kernel
theorem dX2_setWorth_23 : decode cX2_setWorth 23 = .ok (.iload_n 3, 1) := by decide +kernel
theorem dX2_setWorth_24 : decode cX2_setWorth 24 = .ok (.ireturn, 1) := by decide +kernel
set_option maxRecDepth 20000 in
theorem ggX2_withdraw_X2_requireBid : GoodIn wsX2_withdraw wsX2_requireBid := goodIn_ca (goodIn_r _ [9, 10, 11, 12, 95, 96, 97, 98, 99, 100, 101, 102, 103, 104, 105, 106, 107, 108] (by decide +kernel) (by decide +kernel)) (goodIn_sub (fun _ h => List.mem_cons_of_mem _ (List.mem_append_right _ h)) (by decide +kernel))
set_option maxRecDepth 20000 in
theorem gX2_withdraw_X2_requireBid : GoodIn wsX2_withdraw (wsV RX2 97 RX2 yX2_requireBid wsX2_requireBid) := goodIn_app (goodIn_of _ (by decide +kernel)) ggX2_withdraw_X2_requireBid
set_option maxRecDepth 20000 in
theorem ggX2_withdraw_X2_settle : GoodIn wsX2_withdraw wsX2_settle := goodIn_r _ [16, 17, 18, 12, 19, 20, 21, 22, 23, 24, 25, 26, 27, 28, 29, 30, 31, 32, 33, 34, 35, 36, 37, 38, 39, 8, 40, 41, 42, 43, 44, 45, 46, 47, 48, 49, 50, 51, 52, 53, 54, 55, 56, 57, 58, 59, 60, 61, 62, 63, 64, 65, 66, 67, 68, 69, 3, 70, 71, 72, 73, 74, 75, 76, 77, 78, 79, 80, 81, 82, 83, 84, 85, 86, 109, 110, 111, 112, 95, 96, 97, 98, 99, 100, 101, 102, 103, 104, 105, 106, 107, 108, 113, 114] (by decide +kernel) (by decide +kernel)
set_option maxRecDepth 20000 in
theorem gX2_withdraw_X2_settle : GoodIn wsX2_withdraw (wsV RX2 52 RX2 yX2_settle wsX2_settle) := goodIn_app (goodIn_of _ (by decide +kernel)) ggX2_withdraw_X2_settle
set_option maxRecDepth 20000 in
theorem ggX2_withdraw_X2_bidsLeft : GoodIn wsX2_withdraw wsX2_bidsLeft := goodIn_r _ [90, 17, 91, 92, 93, 8, 94, 12, 63, 3, 95, 96, 97, 98, 99, 100, 101, 102, 103, 104, 105, 106, 107, 108] (by decide +kernel) (by decide +kernel)
set_option maxRecDepth 20000 in
theorem gX2_withdraw_X2_bidsLeft : GoodIn wsX2_withdraw (wsV RX2 102 RX2 yX2_bidsLeft wsX2_bidsLeft) := goodIn_app (goodIn_of _ (by decide +kernel)) ggX2_withdraw_X2_bidsLeft
theorem dX2_withdraw_0 : decode cX2_withdraw 0 = .ok (.aload_n 0, 1) := by decide +kernel
theorem dX2_withdraw_1 : decode cX2_withdraw 1 = .ok (.iload_n 1, 1) := by decide +kernel
theorem dX2_withdraw_2 : decode cX2_withdraw 2 = .ok (.invokevirtual 97, 3) := by decide +kernel
theorem dX2_withdraw_5 : decode cX2_withdraw 5 = .ok (.aload_n 0, 1) := by decide +kernel
theorem dX2_withdraw_6 : decode cX2_withdraw 6 = .ok (.getfield 32, 3) := by decide +kernel
theorem dX2_withdraw_9 : decode cX2_withdraw 9 = .ok (.iload_n 1, 1) := by decide +kernel
theorem dX2_withdraw_10 : decode cX2_withdraw 10 = .ok (.baload, 1) := by decide +kernel
theorem dX2_withdraw_11 : decode cX2_withdraw 11 = .ok (.ifCond .eq 13, 3) := by decide +kernel
theorem dX2_withdraw_14 : decode cX2_withdraw 14 = .ok (.new 64, 3) := by decide +kernel
theorem dX2_withdraw_17 : decode cX2_withdraw 17 = .ok (.dup, 1) := by decide +kernel
theorem dX2_withdraw_18 : decode cX2_withdraw 18 = .ok (.ldc 100, 2) := by decide +kernel
theorem dX2_withdraw_20 : decode cX2_withdraw 20 = .ok (.invokespecial 68, 3) := by decide +kernel
theorem dX2_withdraw_23 : decode cX2_withdraw 23 = .ok (.athrow, 1) := by decide +kernel
theorem dX2_withdraw_24 : decode cX2_withdraw 24 = .ok (.aload_n 0, 1) := by decide +kernel
theorem dX2_withdraw_25 : decode cX2_withdraw 25 = .ok (.getfield 32, 3) := by decide +kernel
theorem dX2_withdraw_28 : decode cX2_withdraw 28 = .ok (.iload_n 1, 1) := by decide +kernel
theorem dX2_withdraw_29 : decode cX2_withdraw 29 = .ok (.iconst 1, 1) := by decide +kernel
theorem dX2_withdraw_30 : decode cX2_withdraw 30 = .ok (.bastore, 1) := by decide +kernel
theorem dX2_withdraw_31 : decode cX2_withdraw 31 = .ok (.aload_n 0, 1) := by decide +kernel
theorem dX2_withdraw_32 : decode cX2_withdraw 32 = .ok (.aload_n 0, 1) := by decide +kernel
theorem dX2_withdraw_33 : decode cX2_withdraw 33 = .ok (.getfield 38, 3) := by decide +kernel
theorem dX2_withdraw_36 : decode cX2_withdraw 36 = .ok (.iconst 0, 1) := by decide +kernel
theorem dX2_withdraw_37 : decode cX2_withdraw 37 = .ok (.invokevirtual 52, 3) := by decide +kernel
theorem dX2_withdraw_40 : decode cX2_withdraw 40 = .ok (.aload_n 0, 1) := by decide +kernel
theorem dX2_withdraw_41 : decode cX2_withdraw 41 = .ok (.invokevirtual 102, 3) := by decide +kernel
theorem dX2_withdraw_44 : decode cX2_withdraw 44 = .ok (.ireturn, 1) := by decide +kernel
set_option maxRecDepth 20000 in
theorem ggX2_told_X2_requireBid : GoodIn wsX2_told wsX2_requireBid := goodIn_ca (goodIn_r _ [12, 13, 14, 15, 32, 33, 34, 35, 36, 37, 38, 39, 40, 41, 42, 43, 44, 45] (by decide +kernel) (by decide +kernel)) (goodIn_sub (fun _ h => List.mem_cons_of_mem _ (List.mem_append_right _ h)) (by decide +kernel))
set_option maxRecDepth 20000 in
theorem gX2_told_X2_requireBid : GoodIn wsX2_told (wsV RX2 97 RX2 yX2_requireBid wsX2_requireBid) := goodIn_app (goodIn_of _ (by decide +kernel)) ggX2_told_X2_requireBid
set_option maxRecDepth 20000 in
theorem ggX2_told_X2_requireWhat : GoodIn wsX2_told wsX2_requireWhat := goodIn_ca (goodIn_r _ [18, 13, 14] (by decide +kernel) (by decide +kernel)) (goodIn_sub (fun _ h => List.mem_cons_of_mem _ (List.mem_append_right _ h)) (by decide +kernel))
set_option maxRecDepth 20000 in
theorem gX2_told_X2_requireWhat : GoodIn wsX2_told (va_wsS RX2 106 yX2_requireWhat wsX2_requireWhat) := goodIn_app (goodIn_of _ (by decide +kernel)) ggX2_told_X2_requireWhat
set_option maxRecDepth 20000 in
theorem ggX2_told_X2_asNumber : GoodIn wsX2_told wsX2_asNumber := goodIn_r _ [21] (by decide +kernel) (by decide +kernel)
set_option maxRecDepth 20000 in
theorem gX2_told_X2_asNumber : GoodIn wsX2_told (va_wsS RX2 109 yX2_asNumber wsX2_asNumber) := goodIn_app (goodIn_of _ (by decide +kernel)) ggX2_told_X2_asNumber
set_option maxRecDepth 20000 in
theorem ggX2_told_X2_counts : GoodIn wsX2_told wsX2_counts := goodIn_r _ [25, 5, 26, 1, 6, 32, 33, 34, 35, 36, 37, 38, 39, 40, 41, 42, 43, 44, 45] (by decide +kernel) (by decide +kernel)
set_option maxRecDepth 20000 in
theorem gX2_told_X2_counts : GoodIn wsX2_told (wsV RX2 113 RX2 yX2_counts wsX2_counts) := goodIn_app (goodIn_of _ (by decide +kernel)) ggX2_told_X2_counts
set_option maxRecDepth 20000 in
theorem ggX2_told_X0_has : GoodIn wsX2_told wsX0_has := goodIn_r _ [30, 31, 50, 51] (by decide +kernel) (by decide +kernel)
set_option maxRecDepth 20000 in
theorem gX2_told_X0_has_n120 : GoodIn wsX2_told (wsX0_has) := ggX2_told_X0_has
theorem dX2_told_0 : decode cX2_told 0 = .ok (.aload_n 0, 1) := by decide +kernel
theorem dX2_told_1 : decode cX2_told 1 = .ok (.iload_n 1, 1) := by decide +kernel
theorem dX2_told_2 : decode cX2_told 2 = .ok (.invokevirtual 97, 3) := by decide +kernel
theorem dX2_told_5 : decode cX2_told 5 = .ok (.iload_n 2, 1) := by decide +kernel
theorem dX2_told_6 : decode cX2_told 6 = .ok (.bipush 7, 2) := by decide +kernel
theorem dX2_told_8 : decode cX2_told 8 = .ok (.invokestatic 106, 3) := by decide +kernel
theorem dX2_told_11 : decode cX2_told 11 = .ok (.iload_n 2, 1) := by decide +kernel
theorem dX2_told_12 : decode cX2_told 12 = .ok (.tableswitch 98 0 6 #[44, 51, 58, 65, 72, 82, 89], 44) := by decide +kernel
theorem dX2_told_56 : decode cX2_told 56 = .ok (.aload_n 0, 1) := by decide +kernel
theorem dX2_told_57 : decode cX2_told 57 = .ok (.getfield 17, 3) := by decide +kernel
theorem dX2_told_60 : decode cX2_told 60 = .ok (.iload_n 1, 1) := by decide +kernel
theorem dX2_told_61 : decode cX2_told 61 = .ok (.iaload, 1) := by decide +kernel
theorem dX2_told_62 : decode cX2_told 62 = .ok (.ireturn, 1) := by decide +kernel
theorem dX2_told_63 : decode cX2_told 63 = .ok (.aload_n 0, 1) := by decide +kernel
theorem dX2_told_64 : decode cX2_told 64 = .ok (.getfield 20, 3) := by decide +kernel
theorem dX2_told_67 : decode cX2_told 67 = .ok (.iload_n 1, 1) := by decide +kernel
theorem dX2_told_68 : decode cX2_told 68 = .ok (.iaload, 1) := by decide +kernel
theorem dX2_told_69 : decode cX2_told 69 = .ok (.ireturn, 1) := by decide +kernel
theorem dX2_told_70 : decode cX2_told 70 = .ok (.aload_n 0, 1) := by decide +kernel
theorem dX2_told_71 : decode cX2_told 71 = .ok (.getfield 23, 3) := by decide +kernel
theorem dX2_told_74 : decode cX2_told 74 = .ok (.iload_n 1, 1) := by decide +kernel
theorem dX2_told_75 : decode cX2_told 75 = .ok (.iaload, 1) := by decide +kernel
theorem dX2_told_76 : decode cX2_told 76 = .ok (.ireturn, 1) := by decide +kernel
theorem dX2_told_77 : decode cX2_told 77 = .ok (.aload_n 0, 1) := by decide +kernel
theorem dX2_told_78 : decode cX2_told 78 = .ok (.getfield 29, 3) := by decide +kernel
theorem dX2_told_81 : decode cX2_told 81 = .ok (.iload_n 1, 1) := by decide +kernel
theorem dX2_told_82 : decode cX2_told 82 = .ok (.iaload, 1) := by decide +kernel
theorem dX2_told_83 : decode cX2_told 83 = .ok (.ireturn, 1) := by decide +kernel
theorem dX2_told_84 : decode cX2_told 84 = .ok (.aload_n 0, 1) := by decide +kernel
theorem dX2_told_85 : decode cX2_told 85 = .ok (.getfield 32, 3) := by decide +kernel
theorem dX2_told_88 : decode cX2_told 88 = .ok (.iload_n 1, 1) := by decide +kernel
theorem dX2_told_89 : decode cX2_told 89 = .ok (.baload, 1) := by decide +kernel
theorem dX2_told_90 : decode cX2_told 90 = .ok (.invokestatic 109, 3) := by decide +kernel
theorem dX2_told_93 : decode cX2_told 93 = .ok (.ireturn, 1) := by decide +kernel
theorem dX2_told_94 : decode cX2_told 94 = .ok (.aload_n 0, 1) := by decide +kernel
theorem dX2_told_95 : decode cX2_told 95 = .ok (.getfield 26, 3) := by decide +kernel
theorem dX2_told_98 : decode cX2_told 98 = .ok (.iload_n 1, 1) := by decide +kernel
theorem dX2_told_99 : decode cX2_told 99 = .ok (.iaload, 1) := by decide +kernel
theorem dX2_told_100 : decode cX2_told 100 = .ok (.ireturn, 1) := by decide +kernel
theorem dX2_told_101 : decode cX2_told 101 = .ok (.aload_n 0, 1) := by decide +kernel
theorem dX2_told_102 : decode cX2_told 102 = .ok (.iload_n 1, 1) := by decide +kernel
theorem dX2_told_103 : decode cX2_told 103 = .ok (.invokevirtual 113, 3) := by decide +kernel
theorem dX2_told_106 : decode cX2_told 106 = .ok (.invokestatic 109, 3) := by decide +kernel
theorem dX2_told_109 : decode cX2_told 109 = .ok (.ireturn, 1) := by decide +kernel
theorem dX2_told_110 : decode cX2_told 110 = .ok (.aload_n 0, 1) := by decide +kernel
theorem dX2_told_111 : decode cX2_told 111 = .ok (.getfield 38, 3) := by decide +kernel
theorem dX2_told_114 : decode cX2_told 114 = .ok (.getfield 117, 3) := by decide +kernel
theorem dX2_told_117 : decode cX2_told 117 = .ok (.iload_n 1, 1) := by decide +kernel
theorem dX2_told_118 : decode cX2_told 118 = .ok (.invokevirtual 120, 3) := by decide +kernel
theorem dX2_told_121 : decode cX2_told 121 = .ok (.invokestatic 109, 3) := by decide +kernel
theorem dX2_told_124 : decode cX2_told 124 = .ok (.ireturn, 1) := by decide +kernel
set_option maxRecDepth 20000 in
theorem ggX2_about_X2_requireBidder : GoodIn wsX2_about wsX2_requireBidder := goodIn_ca (goodIn_r _ [7, 8, 9, 10, 29, 30, 31, 32, 33, 34, 35, 36, 37, 38, 39, 40, 41, 42] (by decide +kernel) (by decide +kernel)) (goodIn_sub (fun _ h => List.mem_cons_of_mem _ (List.mem_append_right _ h)) (by decide +kernel))
set_option maxRecDepth 20000 in
theorem gX2_about_X2_requireBidder : GoodIn wsX2_about (wsV RX2 86 RX2 yX2_requireBidder wsX2_requireBidder) := goodIn_app (goodIn_of _ (by decide +kernel)) ggX2_about_X2_requireBidder
set_option maxRecDepth 20000 in
theorem ggX2_about_X2_requireWhat : GoodIn wsX2_about wsX2_requireWhat := goodIn_ca (goodIn_r _ [13, 8, 9] (by decide +kernel) (by decide +kernel)) (goodIn_sub (fun _ h => List.mem_cons_of_mem _ (List.mem_append_right _ h)) (by decide +kernel))
set_option maxRecDepth 20000 in
theorem gX2_about_X2_requireWhat : GoodIn wsX2_about (va_wsS RX2 106 yX2_requireWhat wsX2_requireWhat) := goodIn_app (goodIn_of _ (by decide +kernel)) ggX2_about_X2_requireWhat
set_option maxRecDepth 20000 in
theorem ggX2_about_X2_asNumber : GoodIn wsX2_about wsX2_asNumber := goodIn_r _ [16] (by decide +kernel) (by decide +kernel)
set_option maxRecDepth 20000 in
theorem gX2_about_X2_asNumber : GoodIn wsX2_about (va_wsS RX2 109 yX2_asNumber wsX2_asNumber) := goodIn_app (goodIn_of _ (by decide +kernel)) ggX2_about_X2_asNumber
set_option maxRecDepth 20000 in
theorem ggX2_about_X2_bidsLeftOf : GoodIn wsX2_about wsX2_bidsLeftOf := goodIn_r _ [20, 21, 22, 23, 29, 30, 31, 32, 33, 34, 35, 36, 37, 38, 39, 40, 41, 42] (by decide +kernel) (by decide +kernel)
set_option maxRecDepth 20000 in
theorem gX2_about_X2_bidsLeftOf : GoodIn wsX2_about (wsV RX2 123 RX2 yX2_bidsLeftOf wsX2_bidsLeftOf) := goodIn_app (goodIn_of _ (by decide +kernel)) ggX2_about_X2_bidsLeftOf
set_option maxRecDepth 20000 in
theorem ggX2_about_X2_profit : GoodIn wsX2_about wsX2_profit := goodIn_r _ [27, 28, 43, 44, 45, 46, 29, 30, 31, 32, 33, 34, 35, 36, 37, 38, 39, 40, 41, 42] (by decide +kernel) (by decide +kernel)
set_option maxRecDepth 20000 in
theorem gX2_about_X2_profit : GoodIn wsX2_about (wsV RX2 133 RX2 yX2_profit wsX2_profit) := goodIn_app (goodIn_of _ (by decide +kernel)) ggX2_about_X2_profit
theorem dX2_about_0 : decode cX2_about 0 = .ok (.aload_n 0, 1) := by decide +kernel
theorem dX2_about_1 : decode cX2_about 1 = .ok (.iload_n 1, 1) := by decide +kernel
theorem dX2_about_2 : decode cX2_about 2 = .ok (.invokevirtual 86, 3) := by decide +kernel
theorem dX2_about_5 : decode cX2_about 5 = .ok (.iload_n 2, 1) := by decide +kernel
theorem dX2_about_6 : decode cX2_about 6 = .ok (.iconst 5, 1) := by decide +kernel
theorem dX2_about_7 : decode cX2_about 7 = .ok (.invokestatic 106, 3) := by decide +kernel
theorem dX2_about_10 : decode cX2_about 10 = .ok (.iload_n 2, 1) := by decide +kernel
theorem dX2_about_11 : decode cX2_about 11 = .ok (.tableswitch 79 0 4 #[33, 43, 49, 59, 69], 33) := by decide +kernel
theorem dX2_about_44 : decode cX2_about 44 = .ok (.aload_n 0, 1) := by decide +kernel
theorem dX2_about_45 : decode cX2_about 45 = .ok (.getfield 13, 3) := by decide +kernel
theorem dX2_about_48 : decode cX2_about 48 = .ok (.iload_n 1, 1) := by decide +kernel
theorem dX2_about_49 : decode cX2_about 49 = .ok (.baload, 1) := by decide +kernel
theorem dX2_about_50 : decode cX2_about 50 = .ok (.invokestatic 109, 3) := by decide +kernel
theorem dX2_about_53 : decode cX2_about 53 = .ok (.ireturn, 1) := by decide +kernel
theorem dX2_about_54 : decode cX2_about 54 = .ok (.aload_n 0, 1) := by decide +kernel
theorem dX2_about_55 : decode cX2_about 55 = .ok (.iload_n 1, 1) := by decide +kernel
theorem dX2_about_56 : decode cX2_about 56 = .ok (.invokevirtual 123, 3) := by decide +kernel
theorem dX2_about_59 : decode cX2_about 59 = .ok (.ireturn, 1) := by decide +kernel
theorem dX2_about_60 : decode cX2_about 60 = .ok (.aload_n 0, 1) := by decide +kernel
theorem dX2_about_61 : decode cX2_about 61 = .ok (.getfield 38, 3) := by decide +kernel
theorem dX2_about_64 : decode cX2_about 64 = .ok (.getfield 127, 3) := by decide +kernel
theorem dX2_about_67 : decode cX2_about 67 = .ok (.iload_n 1, 1) := by decide +kernel
theorem dX2_about_68 : decode cX2_about 68 = .ok (.iaload, 1) := by decide +kernel
theorem dX2_about_69 : decode cX2_about 69 = .ok (.ireturn, 1) := by decide +kernel
theorem dX2_about_70 : decode cX2_about 70 = .ok (.aload_n 0, 1) := by decide +kernel
theorem dX2_about_71 : decode cX2_about 71 = .ok (.getfield 38, 3) := by decide +kernel
theorem dX2_about_74 : decode cX2_about 74 = .ok (.getfield 130, 3) := by decide +kernel
theorem dX2_about_77 : decode cX2_about 77 = .ok (.iload_n 1, 1) := by decide +kernel
theorem dX2_about_78 : decode cX2_about 78 = .ok (.iaload, 1) := by decide +kernel
theorem dX2_about_79 : decode cX2_about 79 = .ok (.ireturn, 1) := by decide +kernel
theorem dX2_about_80 : decode cX2_about 80 = .ok (.aload_n 0, 1) := by decide +kernel
theorem dX2_about_81 : decode cX2_about 81 = .ok (.aload_n 0, 1) := by decide +kernel
theorem dX2_about_82 : decode cX2_about 82 = .ok (.getfield 38, 3) := by decide +kernel
theorem dX2_about_85 : decode cX2_about 85 = .ok (.iload_n 1, 1) := by decide +kernel
theorem dX2_about_86 : decode cX2_about 86 = .ok (.invokevirtual 133, 3) := by decide +kernel
theorem dX2_about_89 : decode cX2_about 89 = .ok (.ireturn, 1) := by decide +kernel
theorem dX2_about_90 : decode cX2_about 90 = .ok (.aload_n 0, 1) := by decide +kernel
theorem dX2_about_91 : decode cX2_about 91 = .ok (.getfield 38, 3) := by decide +kernel
theorem dX2_about_94 : decode cX2_about 94 = .ok (.getfield 137, 3) := by decide +kernel
theorem dX2_about_97 : decode cX2_about 97 = .ok (.iload_n 1, 1) := by decide +kernel
theorem dX2_about_98 : decode cX2_about 98 = .ok (.iaload, 1) := by decide +kernel
theorem dX2_about_99 : decode cX2_about 99 = .ok (.ireturn, 1) := by decide +kernel
set_option maxRecDepth 20000 in
theorem ggX2_land_X2_requireField : GoodIn wsX2_land wsX2_requireField := goodIn_ca (goodIn_r _ [6, 7, 8, 9, 44, 45, 46, 47, 48, 49, 50, 51, 52, 53, 54, 55, 56, 57] (by decide +kernel) (by decide +kernel)) (goodIn_sub (fun _ h => List.mem_cons_of_mem _ (List.mem_append_right _ h)) (by decide +kernel))
set_option maxRecDepth 20000 in
theorem gX2_land_X2_requireField : GoodIn wsX2_land (wsV RX2 71 RX2 yX2_requireField wsX2_requireField) := goodIn_app (goodIn_of _ (by decide +kernel)) ggX2_land_X2_requireField
set_option maxRecDepth 20000 in
theorem ggX2_land_X2_requireWhat : GoodIn wsX2_land wsX2_requireWhat := goodIn_ca (goodIn_r _ [12, 7, 8] (by decide +kernel) (by decide +kernel)) (goodIn_sub (fun _ h => List.mem_cons_of_mem _ (List.mem_append_right _ h)) (by decide +kernel))
set_option maxRecDepth 20000 in
theorem gX2_land_X2_requireWhat : GoodIn wsX2_land (va_wsS RX2 106 yX2_requireWhat wsX2_requireWhat) := goodIn_app (goodIn_of _ (by decide +kernel)) ggX2_land_X2_requireWhat
set_option maxRecDepth 20000 in
theorem ggX2_land_X2_winnerOfField : GoodIn wsX2_land wsX2_winnerOfField := goodIn_r _ [16, 17, 18, 19, 20, 21, 22, 23, 24, 25, 26, 5, 27, 44, 45, 46, 47, 48, 49, 50, 51, 52, 53, 54, 55, 56, 57, 58, 59, 60, 61, 62, 63] (by decide +kernel) (by decide +kernel)
set_option maxRecDepth 20000 in
theorem gX2_land_X2_winnerOfField : GoodIn wsX2_land (wsV RX2 140 RX2 yX2_winnerOfField wsX2_winnerOfField) := goodIn_app (goodIn_of _ (by decide +kernel)) ggX2_land_X2_winnerOfField
set_option maxRecDepth 20000 in
theorem ggX2_land_X2_ownerOf : GoodIn wsX2_land wsX2_ownerOf := goodIn_r _ [31, 32, 44, 45, 46, 47, 48, 49, 50, 51, 52, 53, 54, 55, 56, 57] (by decide +kernel) (by decide +kernel)
set_option maxRecDepth 20000 in
theorem gX2_land_X2_ownerOf : GoodIn wsX2_land (wsV RX2 143 RX2 yX2_ownerOf wsX2_ownerOf) := goodIn_app (goodIn_of _ (by decide +kernel)) ggX2_land_X2_ownerOf
set_option maxRecDepth 20000 in
theorem ggX2_land_X2_countingBidsWith : GoodIn wsX2_land wsX2_countingBidsWith := goodIn_r _ [36, 17, 19, 37, 38, 39, 5, 40, 41, 42, 32, 43, 25, 26, 27, 44, 45, 46, 47, 48, 49, 50, 51, 52, 53, 54, 55, 56, 57] (by decide +kernel) (by decide +kernel)
set_option maxRecDepth 20000 in
theorem gX2_land_X2_countingBidsWith : GoodIn wsX2_land (wsV RX2 146 RX2 yX2_countingBidsWith wsX2_countingBidsWith) := goodIn_app (goodIn_of _ (by decide +kernel)) ggX2_land_X2_countingBidsWith
theorem dX2_land_0 : decode cX2_land 0 = .ok (.aload_n 0, 1) := by decide +kernel
theorem dX2_land_1 : decode cX2_land 1 = .ok (.iload_n 1, 1) := by decide +kernel
theorem dX2_land_2 : decode cX2_land 2 = .ok (.invokevirtual 71, 3) := by decide +kernel
theorem dX2_land_5 : decode cX2_land 5 = .ok (.iload_n 2, 1) := by decide +kernel
theorem dX2_land_6 : decode cX2_land 6 = .ok (.iconst 2, 1) := by decide +kernel
theorem dX2_land_7 : decode cX2_land 7 = .ok (.invokestatic 106, 3) := by decide +kernel
theorem dX2_land_10 : decode cX2_land 10 = .ok (.iload_n 2, 1) := by decide +kernel
theorem dX2_land_11 : decode cX2_land 11 = .ok (.lookupswitch 42 #[(0, 25), (1, 32)], 25) := by decide +kernel
theorem dX2_land_36 : decode cX2_land 36 = .ok (.aload_n 0, 1) := by decide +kernel
theorem dX2_land_37 : decode cX2_land 37 = .ok (.getfield 9, 3) := by decide +kernel
theorem dX2_land_40 : decode cX2_land 40 = .ok (.iload_n 1, 1) := by decide +kernel
theorem dX2_land_41 : decode cX2_land 41 = .ok (.iaload, 1) := by decide +kernel
theorem dX2_land_42 : decode cX2_land 42 = .ok (.ireturn, 1) := by decide +kernel
theorem dX2_land_43 : decode cX2_land 43 = .ok (.aload_n 0, 1) := by decide +kernel
theorem dX2_land_44 : decode cX2_land 44 = .ok (.aload_n 0, 1) := by decide +kernel
theorem dX2_land_45 : decode cX2_land 45 = .ok (.iload_n 1, 1) := by decide +kernel
theorem dX2_land_46 : decode cX2_land 46 = .ok (.invokevirtual 140, 3) := by decide +kernel
theorem dX2_land_49 : decode cX2_land 49 = .ok (.invokevirtual 143, 3) := by decide +kernel
theorem dX2_land_52 : decode cX2_land 52 = .ok (.ireturn, 1) := by decide +kernel
theorem dX2_land_53 : decode cX2_land 53 = .ok (.aload_n 0, 1) := by decide +kernel
theorem dX2_land_54 : decode cX2_land 54 = .ok (.iload_n 1, 1) := by decide +kernel
theorem dX2_land_55 : decode cX2_land 55 = .ok (.invokevirtual 146, 3) := by decide +kernel
theorem dX2_land_58 : decode cX2_land 58 = .ok (.ireturn, 1) := by decide +kernel
set_option maxRecDepth 20000 in
theorem ggX2_count_X2_requireWhat : GoodIn wsX2_count wsX2_requireWhat := goodIn_ca (goodIn_r _ [8, 9, 10] (by decide +kernel) (by decide +kernel)) (goodIn_sub (fun _ h => List.mem_cons_of_mem _ (List.mem_append_right _ h)) (by decide +kernel))
set_option maxRecDepth 20000 in
theorem gX2_count_X2_requireWhat : GoodIn wsX2_count (va_wsS RX2 106 yX2_requireWhat wsX2_requireWhat) := goodIn_app (goodIn_of _ (by decide +kernel)) ggX2_count_X2_requireWhat
set_option maxRecDepth 20000 in
theorem ggX2_count_J6_bitCount_0f7a4 : GoodIn wsX2_count wsJ6_bitCount_0f7a4 := goodIn_r _ [14, 15, 16, 17] (by decide +kernel) (by decide +kernel)
set_option maxRecDepth 20000 in
theorem gX2_count_J6_bitCount_0f7a4 : GoodIn wsX2_count (va_wsS RX2 155 yJ6_bitCount_0f7a4 wsJ6_bitCount_0f7a4) := goodIn_app (goodIn_of _ (by decide +kernel)) ggX2_count_J6_bitCount_0f7a4
set_option maxRecDepth 20000 in
theorem ggX2_count_X2_soldFields : GoodIn wsX2_count wsX2_soldFields := goodIn_r _ [21, 3, 4, 22, 23, 24, 25, 26, 27, 47, 48, 49, 50, 51, 52, 53, 54, 55, 56, 57, 58, 59, 60, 61, 62, 63, 64, 65, 66] (by decide +kernel) (by decide +kernel)
set_option maxRecDepth 20000 in
theorem gX2_count_X2_soldFields : GoodIn wsX2_count (wsV RX2 160 RX2 yX2_soldFields wsX2_soldFields) := goodIn_app (goodIn_of _ (by decide +kernel)) ggX2_count_X2_soldFields
set_option maxRecDepth 20000 in
theorem ggX2_count_X1_totalPaid : GoodIn wsX2_count wsX1_totalPaid := goodIn_r _ [31, 32, 61, 62, 63, 64] (by decide +kernel) (by decide +kernel)
set_option maxRecDepth 20000 in
theorem gX2_count_X1_totalPaid_n163 : GoodIn wsX2_count (wsX1_totalPaid) := ggX2_count_X1_totalPaid
set_option maxRecDepth 20000 in
theorem ggX2_count_X2_totalProfit : GoodIn wsX2_count wsX2_totalProfit := goodIn_r _ [36, 2, 4, 37, 38, 39, 7, 40, 41, 47, 48, 49, 50, 51, 52, 53, 54, 55, 56, 57, 58, 59, 60, 61, 62, 63, 64] (by decide +kernel) (by decide +kernel)
set_option maxRecDepth 20000 in
theorem gX2_count_X2_totalProfit : GoodIn wsX2_count (wsV RX2 166 RX2 yX2_totalProfit wsX2_totalProfit) := goodIn_app (goodIn_of _ (by decide +kernel)) ggX2_count_X2_totalProfit
set_option maxRecDepth 20000 in
theorem ggX2_count_X2_winningPrices : GoodIn wsX2_count wsX2_winningPrices := goodIn_r _ [45, 3, 4, 46, 23, 24, 25, 26, 27, 47, 48, 49, 50, 51, 52, 53, 54, 55, 56, 57, 58, 59, 60, 61, 62, 63, 64, 65, 66] (by decide +kernel) (by decide +kernel)
set_option maxRecDepth 20000 in
theorem gX2_count_X2_winningPrices : GoodIn wsX2_count (wsV RX2 169 RX2 yX2_winningPrices wsX2_winningPrices) := goodIn_app (goodIn_of _ (by decide +kernel)) ggX2_count_X2_winningPrices
theorem dX2_count_0 : decode cX2_count 0 = .ok (.iload_n 1, 1) := by decide +kernel
theorem dX2_count_1 : decode cX2_count 1 = .ok (.bipush 8, 2) := by decide +kernel
theorem dX2_count_3 : decode cX2_count 3 = .ok (.invokestatic 106, 3) := by decide +kernel
theorem dX2_count_6 : decode cX2_count 6 = .ok (.iload_n 1, 1) := by decide +kernel
theorem dX2_count_7 : decode cX2_count 7 = .ok (.tableswitch 106 0 7 #[45, 50, 55, 60, 71, 85, 93, 101], 45) := by decide +kernel
theorem dX2_count_52 : decode cX2_count 52 = .ok (.aload_n 0, 1) := by decide +kernel
theorem dX2_count_53 : decode cX2_count 53 = .ok (.getfield 60, 3) := by decide +kernel
theorem dX2_count_56 : decode cX2_count 56 = .ok (.ireturn, 1) := by decide +kernel
theorem dX2_count_57 : decode cX2_count 57 = .ok (.aload_n 0, 1) := by decide +kernel
theorem dX2_count_58 : decode cX2_count 58 = .ok (.getfield 81, 3) := by decide +kernel
theorem dX2_count_61 : decode cX2_count 61 = .ok (.ireturn, 1) := by decide +kernel
theorem dX2_count_62 : decode cX2_count 62 = .ok (.aload_n 0, 1) := by decide +kernel
theorem dX2_count_63 : decode cX2_count 63 = .ok (.getfield 74, 3) := by decide +kernel
theorem dX2_count_66 : decode cX2_count 66 = .ok (.ireturn, 1) := by decide +kernel
theorem dX2_count_67 : decode cX2_count 67 = .ok (.aload_n 0, 1) := by decide +kernel
theorem dX2_count_68 : decode cX2_count 68 = .ok (.getfield 38, 3) := by decide +kernel
theorem dX2_count_71 : decode cX2_count 71 = .ok (.getfield 117, 3) := by decide +kernel
theorem dX2_count_74 : decode cX2_count 74 = .ok (.getfield 149, 3) := by decide +kernel
theorem dX2_count_77 : decode cX2_count 77 = .ok (.ireturn, 1) := by decide +kernel
theorem dX2_count_78 : decode cX2_count 78 = .ok (.aload_n 0, 1) := by decide +kernel
theorem dX2_count_79 : decode cX2_count 79 = .ok (.getfield 38, 3) := by decide +kernel
theorem dX2_count_82 : decode cX2_count 82 = .ok (.getfield 117, 3) := by decide +kernel
theorem dX2_count_85 : decode cX2_count 85 = .ok (.getfield 152, 3) := by decide +kernel
theorem dX2_count_88 : decode cX2_count 88 = .ok (.invokestatic 155, 3) := by decide +kernel
theorem dX2_count_91 : decode cX2_count 91 = .ok (.ireturn, 1) := by decide +kernel
theorem dX2_count_92 : decode cX2_count 92 = .ok (.aload_n 0, 1) := by decide +kernel
theorem dX2_count_93 : decode cX2_count 93 = .ok (.invokevirtual 160, 3) := by decide +kernel
theorem dX2_count_96 : decode cX2_count 96 = .ok (.invokestatic 155, 3) := by decide +kernel
theorem dX2_count_99 : decode cX2_count 99 = .ok (.ireturn, 1) := by decide +kernel
theorem dX2_count_100 : decode cX2_count 100 = .ok (.aload_n 0, 1) := by decide +kernel
theorem dX2_count_101 : decode cX2_count 101 = .ok (.getfield 38, 3) := by decide +kernel
theorem dX2_count_104 : decode cX2_count 104 = .ok (.invokevirtual 163, 3) := by decide +kernel
theorem dX2_count_107 : decode cX2_count 107 = .ok (.ireturn, 1) := by decide +kernel
theorem dX2_count_108 : decode cX2_count 108 = .ok (.aload_n 0, 1) := by decide +kernel
theorem dX2_count_109 : decode cX2_count 109 = .ok (.invokevirtual 166, 3) := by decide +kernel
theorem dX2_count_112 : decode cX2_count 112 = .ok (.ireturn, 1) := by decide +kernel
theorem dX2_count_113 : decode cX2_count 113 = .ok (.aload_n 0, 1) := by decide +kernel
theorem dX2_count_114 : decode cX2_count 114 = .ok (.invokevirtual 169, 3) := by decide +kernel
theorem dX2_count_117 : decode cX2_count 117 = .ok (.ireturn, 1) := by decide +kernel
set_option maxRecDepth 20000 in
theorem ggX2_alone_X2_requireField : GoodIn wsX2_alone wsX2_requireField := goodIn_ca (goodIn_r _ [6, 7, 8, 9, 32, 33, 34, 35, 36, 37, 38, 39, 40, 41, 42, 43, 44, 45] (by decide +kernel) (by decide +kernel)) (goodIn_sub (fun _ h => List.mem_cons_of_mem _ (List.mem_append_right _ h)) (by decide +kernel))
set_option maxRecDepth 20000 in
theorem gX2_alone_X2_requireField : GoodIn wsX2_alone (wsV RX2 71 RX2 yX2_requireField wsX2_requireField) := goodIn_app (goodIn_of _ (by decide +kernel)) ggX2_alone_X2_requireField
set_option maxRecDepth 20000 in
theorem ggX2_alone_X2_requireWhat : GoodIn wsX2_alone wsX2_requireWhat := goodIn_ca (goodIn_r _ [12, 7, 8] (by decide +kernel) (by decide +kernel)) (goodIn_sub (fun _ h => List.mem_cons_of_mem _ (List.mem_append_right _ h)) (by decide +kernel))
set_option maxRecDepth 20000 in
theorem gX2_alone_X2_requireWhat : GoodIn wsX2_alone (va_wsS RX2 106 yX2_requireWhat wsX2_requireWhat) := goodIn_app (goodIn_of _ (by decide +kernel)) ggX2_alone_X2_requireWhat
set_option maxRecDepth 20000 in
theorem ggX2_alone_X2_highestAlone : GoodIn wsX2_alone wsX2_highestAlone := goodIn_r _ [16, 17, 18, 1, 19, 20, 21, 22, 5, 23, 24, 25, 26, 32, 33, 34, 35, 36, 37, 38, 39, 40, 41, 42, 43, 44, 45] (by decide +kernel) (by decide +kernel)
set_option maxRecDepth 20000 in
theorem gX2_alone_X2_highestAlone : GoodIn wsX2_alone (wsV RX2 172 RX2 yX2_highestAlone wsX2_highestAlone) := goodIn_app (goodIn_of _ (by decide +kernel)) ggX2_alone_X2_highestAlone
set_option maxRecDepth 20000 in
theorem ggX2_alone_X2_secondPrice : GoodIn wsX2_alone wsX2_secondPrice := goodIn_r _ [30, 1, 31, 19, 13, 14, 15, 5, 16, 17, 18, 20, 21, 22, 23, 24, 25, 26, 32, 33, 34, 35, 36, 37, 38, 39, 40, 41, 42, 43, 44, 45] (by decide +kernel) (by decide +kernel)
set_option maxRecDepth 20000 in
theorem gX2_alone_X2_secondPrice : GoodIn wsX2_alone (wsV RX2 176 RX2 yX2_secondPrice wsX2_secondPrice) := goodIn_app (goodIn_of _ (by decide +kernel)) ggX2_alone_X2_secondPrice
theorem dX2_alone_0 : decode cX2_alone 0 = .ok (.aload_n 0, 1) := by decide +kernel
theorem dX2_alone_1 : decode cX2_alone 1 = .ok (.iload_n 1, 1) := by decide +kernel
theorem dX2_alone_2 : decode cX2_alone 2 = .ok (.invokevirtual 71, 3) := by decide +kernel
theorem dX2_alone_5 : decode cX2_alone 5 = .ok (.iload_n 2, 1) := by decide +kernel
theorem dX2_alone_6 : decode cX2_alone 6 = .ok (.iconst 2, 1) := by decide +kernel
theorem dX2_alone_7 : decode cX2_alone 7 = .ok (.invokestatic 106, 3) := by decide +kernel
theorem dX2_alone_10 : decode cX2_alone 10 = .ok (.aload_n 0, 1) := by decide +kernel
theorem dX2_alone_11 : decode cX2_alone 11 = .ok (.iload_n 1, 1) := by decide +kernel
theorem dX2_alone_12 : decode cX2_alone 12 = .ok (.iconst (-1), 1) := by decide +kernel
theorem dX2_alone_13 : decode cX2_alone 13 = .ok (.invokevirtual 172, 3) := by decide +kernel
theorem dX2_alone_16 : decode cX2_alone 16 = .ok (.istore_n 3, 1) := by decide +kernel
theorem dX2_alone_17 : decode cX2_alone 17 = .ok (.iload_n 3, 1) := by decide +kernel
theorem dX2_alone_18 : decode cX2_alone 18 = .ok (.iconst (-1), 1) := by decide +kernel
theorem dX2_alone_19 : decode cX2_alone 19 = .ok (.if_icmp .ne 5, 3) := by decide +kernel
theorem dX2_alone_22 : decode cX2_alone 22 = .ok (.iconst (-1), 1) := by decide +kernel
theorem dX2_alone_23 : decode cX2_alone 23 = .ok (.ireturn, 1) := by decide +kernel
theorem dX2_alone_24 : decode cX2_alone 24 = .ok (.iload_n 2, 1) := by decide +kernel
theorem dX2_alone_25 : decode cX2_alone 25 = .ok (.lookupswitch 36 #[(0, 27), (1, 29)], 27) := by decide +kernel
theorem dX2_alone_52 : decode cX2_alone 52 = .ok (.iload_n 3, 1) := by decide +kernel
theorem dX2_alone_53 : decode cX2_alone 53 = .ok (.ireturn, 1) := by decide +kernel
theorem dX2_alone_54 : decode cX2_alone 54 = .ok (.aload_n 0, 1) := by decide +kernel
theorem dX2_alone_55 : decode cX2_alone 55 = .ok (.getfield 17, 3) := by decide +kernel
theorem dX2_alone_58 : decode cX2_alone 58 = .ok (.iload_n 3, 1) := by decide +kernel
theorem dX2_alone_59 : decode cX2_alone 59 = .ok (.iaload, 1) := by decide +kernel
theorem dX2_alone_60 : decode cX2_alone 60 = .ok (.ireturn, 1) := by decide +kernel
theorem dX2_alone_61 : decode cX2_alone 61 = .ok (.aload_n 0, 1) := by decide +kernel
theorem dX2_alone_62 : decode cX2_alone 62 = .ok (.iload_n 1, 1) := by decide +kernel
theorem dX2_alone_63 : decode cX2_alone 63 = .ok (.iload_n 3, 1) := by decide +kernel
theorem dX2_alone_64 : decode cX2_alone 64 = .ok (.invokevirtual 176, 3) := by decide +kernel
theorem dX2_alone_67 : decode cX2_alone 67 = .ok (.ireturn, 1) := by decide +kernel
set_option maxRecDepth 20000 in
theorem ggX2_mean_J6_bitCount_0f7a4 : GoodIn wsX2_mean wsJ6_bitCount_0f7a4 := goodIn_r _ [5, 6, 7, 8] (by decide +kernel) (by decide +kernel)
set_option maxRecDepth 20000 in
theorem gX2_mean_J6_bitCount_0f7a4 : GoodIn wsX2_mean (va_wsS RX2 155 yJ6_bitCount_0f7a4 wsJ6_bitCount_0f7a4) := goodIn_app (goodIn_of _ (by decide +kernel)) ggX2_mean_J6_bitCount_0f7a4
set_option maxRecDepth 20000 in
theorem ggX2_mean_X1_totalPaid : GoodIn wsX2_mean wsX1_totalPaid := goodIn_r _ [12, 13, 28, 29, 30, 31] (by decide +kernel) (by decide +kernel)
set_option maxRecDepth 20000 in
theorem gX2_mean_X1_totalPaid_n163 : GoodIn wsX2_mean (wsX1_totalPaid) := ggX2_mean_X1_totalPaid
theorem dX2_mean_0 : decode cX2_mean 0 = .ok (.aload_n 0, 1) := by decide +kernel
theorem dX2_mean_1 : decode cX2_mean 1 = .ok (.getfield 38, 3) := by decide +kernel
theorem dX2_mean_4 : decode cX2_mean 4 = .ok (.getfield 117, 3) := by decide +kernel
theorem dX2_mean_7 : decode cX2_mean 7 = .ok (.getfield 152, 3) := by decide +kernel
theorem dX2_mean_10 : decode cX2_mean 10 = .ok (.invokestatic 155, 3) := by decide +kernel
theorem dX2_mean_13 : decode cX2_mean 13 = .ok (.istore_n 1, 1) := by decide +kernel
theorem dX2_mean_14 : decode cX2_mean 14 = .ok (.iload_n 1, 1) := by decide +kernel
theorem dX2_mean_15 : decode cX2_mean 15 = .ok (.ifCond .ne 5, 3) := by decide +kernel
theorem dX2_mean_18 : decode cX2_mean 18 = .ok (.dconst 0, 1) := by decide +kernel
theorem dX2_mean_19 : decode cX2_mean 19 = .ok (.dreturn, 1) := by decide +kernel
theorem dX2_mean_20 : decode cX2_mean 20 = .ok (.aload_n 0, 1) := by decide +kernel
theorem dX2_mean_21 : decode cX2_mean 21 = .ok (.getfield 38, 3) := by decide +kernel
theorem dX2_mean_24 : decode cX2_mean 24 = .ok (.invokevirtual 163, 3) := by decide +kernel
theorem dX2_mean_27 : decode cX2_mean 27 = .ok (.i2d, 1) := by decide +kernel
theorem dX2_mean_28 : decode cX2_mean 28 = .ok (.iload_n 1, 1) := by decide +kernel
theorem dX2_mean_29 : decode cX2_mean 29 = .ok (.i2d, 1) := by decide +kernel
theorem dX2_mean_30 : decode cX2_mean 30 = .ok (.ddiv, 1) := by decide +kernel
theorem dX2_mean_31 : decode cX2_mean 31 = .ok (.dreturn, 1) := by decide +kernel
theorem dX2_requireField_0 : decode cX2_requireField 0 = .ok (.iload_n 1, 1) := by decide +kernel
theorem dX2_requireField_1 : decode cX2_requireField 1 = .ok (.ifCond .lt 11, 3) := by decide +kernel
theorem dX2_requireField_4 : decode cX2_requireField 4 = .ok (.iload_n 1, 1) := by decide +kernel
theorem dX2_requireField_5 : decode cX2_requireField 5 = .ok (.aload_n 0, 1) := by decide +kernel
theorem dX2_requireField_6 : decode cX2_requireField 6 = .ok (.getfield 60, 3) := by decide +kernel
theorem dX2_requireField_9 : decode cX2_requireField 9 = .ok (.if_icmp .lt 13, 3) := by decide +kernel
theorem dX2_requireField_12 : decode cX2_requireField 12 = .ok (.new 206, 3) := by decide +kernel
theorem dX2_requireField_15 : decode cX2_requireField 15 = .ok (.dup, 1) := by decide +kernel
theorem dX2_requireField_16 : decode cX2_requireField 16 = .ok (.ldc 208, 2) := by decide +kernel
theorem dX2_requireField_18 : decode cX2_requireField 18 = .ok (.invokespecial 210, 3) := by decide +kernel
theorem dX2_requireField_21 : decode cX2_requireField 21 = .ok (.athrow, 1) := by decide +kernel
theorem dX2_requireField_22 : decode cX2_requireField 22 = .ok (.return_, 1) := by decide +kernel
theorem dX2_requireBidder_0 : decode cX2_requireBidder 0 = .ok (.iload_n 1, 1) := by decide +kernel
theorem dX2_requireBidder_1 : decode cX2_requireBidder 1 = .ok (.ifCond .lt 11, 3) := by decide +kernel
theorem dX2_requireBidder_4 : decode cX2_requireBidder 4 = .ok (.iload_n 1, 1) := by decide +kernel
theorem dX2_requireBidder_5 : decode cX2_requireBidder 5 = .ok (.aload_n 0, 1) := by decide +kernel
theorem dX2_requireBidder_6 : decode cX2_requireBidder 6 = .ok (.getfield 81, 3) := by decide +kernel
theorem dX2_requireBidder_9 : decode cX2_requireBidder 9 = .ok (.if_icmp .lt 13, 3) := by decide +kernel
theorem dX2_requireBidder_12 : decode cX2_requireBidder 12 = .ok (.new 206, 3) := by decide +kernel
theorem dX2_requireBidder_15 : decode cX2_requireBidder 15 = .ok (.dup, 1) := by decide +kernel
theorem dX2_requireBidder_16 : decode cX2_requireBidder 16 = .ok (.ldc 211, 2) := by decide +kernel
theorem dX2_requireBidder_18 : decode cX2_requireBidder 18 = .ok (.invokespecial 210, 3) := by decide +kernel
theorem dX2_requireBidder_21 : decode cX2_requireBidder 21 = .ok (.athrow, 1) := by decide +kernel
theorem dX2_requireBidder_22 : decode cX2_requireBidder 22 = .ok (.return_, 1) := by decide +kernel
theorem dX2_requireBid_0 : decode cX2_requireBid 0 = .ok (.iload_n 1, 1) := by decide +kernel
theorem dX2_requireBid_1 : decode cX2_requireBid 1 = .ok (.ifCond .lt 11, 3) := by decide +kernel
end
section
theorem dX2_requireBid_4 : decode cX2_requireBid 4 = .ok (.iload_n 1, 1) := by decide +kernel
theorem dX2_requireBid_5 : decode cX2_requireBid 5 = .ok (.aload_n 0, 1) := by decide +kernel
theorem dX2_requireBid_6 : decode cX2_requireBid 6 = .ok (.getfield 74, 3) := by decide +kernel
theorem dX2_requireBid_9 : decode cX2_requireBid 9 = .ok (.if_icmp .lt 13, 3) := by decide +kernel
theorem dX2_requireBid_12 : decode cX2_requireBid 12 = .ok (.new 206, 3) := by decide +kernel
theorem dX2_requireBid_15 : decode cX2_requireBid 15 = .ok (.dup, 1) := by decide +kernel
theorem dX2_requireBid_16 : decode cX2_requireBid 16 = .ok (.ldc 213, 2) := by decide +kernel
theorem dX2_requireBid_18 : decode cX2_requireBid 18 = .ok (.invokespecial 210, 3) := by decide +kernel
theorem dX2_requireBid_21 : decode cX2_requireBid 21 = .ok (.athrow, 1) := by decide +kernel
theorem dX2_requireBid_22 : decode cX2_requireBid 22 = .ok (.return_, 1) := by decide +kernel
theorem dX2_requireWhat_0 : decode cX2_requireWhat 0 = .ok (.iload_n 0, 1) := by decide +kernel
theorem dX2_requireWhat_1 : decode cX2_requireWhat 1 = .ok (.ifCond .lt 8, 3) := by decide +kernel
theorem dX2_requireWhat_4 : decode cX2_requireWhat 4 = .ok (.iload_n 0, 1) := by decide +kernel
theorem dX2_requireWhat_5 : decode cX2_requireWhat 5 = .ok (.iload_n 1, 1) := by decide +kernel
theorem dX2_requireWhat_6 : decode cX2_requireWhat 6 = .ok (.if_icmp .le 13, 3) := by decide +kernel
theorem dX2_requireWhat_9 : decode cX2_requireWhat 9 = .ok (.new 206, 3) := by decide +kernel
theorem dX2_requireWhat_12 : decode cX2_requireWhat 12 = .ok (.dup, 1) := by decide +kernel
theorem dX2_requireWhat_13 : decode cX2_requireWhat 13 = .ok (.ldc 215, 2) := by decide +kernel
theorem dX2_requireWhat_15 : decode cX2_requireWhat 15 = .ok (.invokespecial 210, 3) := by decide +kernel
theorem dX2_requireWhat_18 : decode cX2_requireWhat 18 = .ok (.athrow, 1) := by decide +kernel
theorem dX2_requireWhat_19 : decode cX2_requireWhat 19 = .ok (.return_, 1) := by decide +kernel
theorem dX2_requireReserve_0 : decode cX2_requireReserve 0 = .ok (.iload_n 0, 1) := by decide +kernel
theorem dX2_requireReserve_1 : decode cX2_requireReserve 1 = .ok (.ifCond .lt 9, 3) := by decide +kernel
theorem dX2_requireReserve_4 : decode cX2_requireReserve 4 = .ok (.iload_n 0, 1) := by decide +kernel
theorem dX2_requireReserve_5 : decode cX2_requireReserve 5 = .ok (.bipush 99, 2) := by decide +kernel
theorem dX2_requireReserve_7 : decode cX2_requireReserve 7 = .ok (.if_icmp .le 13, 3) := by decide +kernel
theorem dX2_requireReserve_10 : decode cX2_requireReserve 10 = .ok (.new 217, 3) := by decide +kernel
theorem dX2_requireReserve_13 : decode cX2_requireReserve 13 = .ok (.dup, 1) := by decide +kernel
theorem dX2_requireReserve_14 : decode cX2_requireReserve 14 = .ok (.ldc 219, 2) := by decide +kernel
theorem dX2_requireReserve_16 : decode cX2_requireReserve 16 = .ok (.invokespecial 221, 3) := by decide +kernel
theorem dX2_requireReserve_19 : decode cX2_requireReserve 19 = .ok (.athrow, 1) := by decide +kernel
theorem dX2_requireReserve_20 : decode cX2_requireReserve 20 = .ok (.return_, 1) := by decide +kernel
theorem dX2_requireAmount_0 : decode cX2_requireAmount 0 = .ok (.iload_n 0, 1) := by decide +kernel
theorem dX2_requireAmount_1 : decode cX2_requireAmount 1 = .ok (.ifCond .lt 10, 3) := by decide +kernel
theorem dX2_requireAmount_4 : decode cX2_requireAmount 4 = .ok (.iload_n 0, 1) := by decide +kernel
theorem dX2_requireAmount_5 : decode cX2_requireAmount 5 = .ok (.sipush 999, 3) := by decide +kernel
theorem dX2_requireAmount_8 : decode cX2_requireAmount 8 = .ok (.if_icmp .le 13, 3) := by decide +kernel
theorem dX2_requireAmount_11 : decode cX2_requireAmount 11 = .ok (.new 217, 3) := by decide +kernel
theorem dX2_requireAmount_14 : decode cX2_requireAmount 14 = .ok (.dup, 1) := by decide +kernel
theorem dX2_requireAmount_15 : decode cX2_requireAmount 15 = .ok (.ldc 222, 2) := by decide +kernel
theorem dX2_requireAmount_17 : decode cX2_requireAmount 17 = .ok (.invokespecial 221, 3) := by decide +kernel
theorem dX2_requireAmount_20 : decode cX2_requireAmount 20 = .ok (.athrow, 1) := by decide +kernel
theorem dX2_requireAmount_21 : decode cX2_requireAmount 21 = .ok (.return_, 1) := by decide +kernel
theorem dX2_requireBundle_0 : decode cX2_requireBundle 0 = .ok (.iload_n 1, 1) := by decide +kernel
theorem dX2_requireBundle_1 : decode cX2_requireBundle 1 = .ok (.ifCond .le 13, 3) := by decide +kernel
theorem dX2_requireBundle_4 : decode cX2_requireBundle 4 = .ok (.iload_n 1, 1) := by decide +kernel
theorem dX2_requireBundle_5 : decode cX2_requireBundle 5 = .ok (.iconst 1, 1) := by decide +kernel
theorem dX2_requireBundle_6 : decode cX2_requireBundle 6 = .ok (.aload_n 0, 1) := by decide +kernel
theorem dX2_requireBundle_7 : decode cX2_requireBundle 7 = .ok (.getfield 60, 3) := by decide +kernel
theorem dX2_requireBundle_10 : decode cX2_requireBundle 10 = .ok (.ishl, 1) := by decide +kernel
theorem dX2_requireBundle_11 : decode cX2_requireBundle 11 = .ok (.if_icmp .lt 13, 3) := by decide +kernel
theorem dX2_requireBundle_14 : decode cX2_requireBundle 14 = .ok (.new 217, 3) := by decide +kernel
theorem dX2_requireBundle_17 : decode cX2_requireBundle 17 = .ok (.dup, 1) := by decide +kernel
theorem dX2_requireBundle_18 : decode cX2_requireBundle 18 = .ok (.ldc 224, 2) := by decide +kernel
theorem dX2_requireBundle_20 : decode cX2_requireBundle 20 = .ok (.invokespecial 221, 3) := by decide +kernel
theorem dX2_requireBundle_23 : decode cX2_requireBundle 23 = .ok (.athrow, 1) := by decide +kernel
theorem dX2_requireBundle_24 : decode cX2_requireBundle 24 = .ok (.return_, 1) := by decide +kernel
set_option maxRecDepth 20000 in
theorem ggX2_putPrice_X2_reservesOf : GoodIn wsX2_putPrice wsX2_reservesOf := goodIn_r _ [8, 9, 10, 11, 12, 7, 13, 14, 15, 16, 17, 18, 19, 20, 21, 22, 23, 24, 25, 26, 27] (by decide +kernel) (by decide +kernel)
set_option maxRecDepth 20000 in
theorem gX2_putPrice_X2_reservesOf : GoodIn wsX2_putPrice (wsV RX2 226 RX2 yX2_reservesOf wsX2_reservesOf) := goodIn_app (goodIn_of _ (by decide +kernel)) ggX2_putPrice_X2_reservesOf
theorem dX2_putPrice_0 : decode cX2_putPrice 0 = .ok (.aload_n 0, 1) := by decide +kernel
theorem dX2_putPrice_1 : decode cX2_putPrice 1 = .ok (.getfield 23, 3) := by decide +kernel
theorem dX2_putPrice_4 : decode cX2_putPrice 4 = .ok (.iload_n 1, 1) := by decide +kernel
theorem dX2_putPrice_5 : decode cX2_putPrice 5 = .ok (.iload_n 2, 1) := by decide +kernel
theorem dX2_putPrice_6 : decode cX2_putPrice 6 = .ok (.iastore, 1) := by decide +kernel
theorem dX2_putPrice_7 : decode cX2_putPrice 7 = .ok (.aload_n 0, 1) := by decide +kernel
theorem dX2_putPrice_8 : decode cX2_putPrice 8 = .ok (.getfield 26, 3) := by decide +kernel
theorem dX2_putPrice_11 : decode cX2_putPrice 11 = .ok (.iload_n 1, 1) := by decide +kernel
theorem dX2_putPrice_12 : decode cX2_putPrice 12 = .ok (.iload_n 2, 1) := by decide +kernel
theorem dX2_putPrice_13 : decode cX2_putPrice 13 = .ok (.aload_n 0, 1) := by decide +kernel
theorem dX2_putPrice_14 : decode cX2_putPrice 14 = .ok (.aload_n 0, 1) := by decide +kernel
theorem dX2_putPrice_15 : decode cX2_putPrice 15 = .ok (.getfield 20, 3) := by decide +kernel
theorem dX2_putPrice_18 : decode cX2_putPrice 18 = .ok (.iload_n 1, 1) := by decide +kernel
theorem dX2_putPrice_19 : decode cX2_putPrice 19 = .ok (.iaload, 1) := by decide +kernel
theorem dX2_putPrice_20 : decode cX2_putPrice 20 = .ok (.invokevirtual 226, 3) := by decide +kernel
theorem dX2_putPrice_23 : decode cX2_putPrice 23 = .ok (.isub, 1) := by decide +kernel
theorem dX2_putPrice_24 : decode cX2_putPrice 24 = .ok (.iastore, 1) := by decide +kernel
theorem dX2_putPrice_25 : decode cX2_putPrice 25 = .ok (.return_, 1) := by decide +kernel
set_option maxRecDepth 20000 in
theorem ggX2_reservesOf_X2_hasField : GoodIn wsX2_reservesOf wsX2_hasField := goodIn_r _ [6] (by decide +kernel) (by decide +kernel)
set_option maxRecDepth 20000 in
theorem gX2_reservesOf_X2_hasField : GoodIn wsX2_reservesOf (va_wsS RX2 229 yX2_hasField wsX2_hasField) := goodIn_app (goodIn_of _ (by decide +kernel)) ggX2_reservesOf_X2_hasField
theorem dX2_reservesOf_0 : decode cX2_reservesOf 0 = .ok (.iconst 0, 1) := by decide +kernel
theorem dX2_reservesOf_1 : decode cX2_reservesOf 1 = .ok (.istore_n 2, 1) := by decide +kernel
theorem dX2_reservesOf_2 : decode cX2_reservesOf 2 = .ok (.iconst 0, 1) := by decide +kernel
theorem dX2_reservesOf_3 : decode cX2_reservesOf 3 = .ok (.istore_n 3, 1) := by decide +kernel
theorem dX2_reservesOf_4 : decode cX2_reservesOf 4 = .ok (.iload_n 3, 1) := by decide +kernel
theorem dX2_reservesOf_5 : decode cX2_reservesOf 5 = .ok (.aload_n 0, 1) := by decide +kernel
theorem dX2_reservesOf_6 : decode cX2_reservesOf 6 = .ok (.getfield 60, 3) := by decide +kernel
theorem dX2_reservesOf_9 : decode cX2_reservesOf 9 = .ok (.if_icmp .ge 26, 3) := by decide +kernel
theorem dX2_reservesOf_12 : decode cX2_reservesOf 12 = .ok (.iload_n 1, 1) := by decide +kernel
theorem dX2_reservesOf_13 : decode cX2_reservesOf 13 = .ok (.iload_n 3, 1) := by decide +kernel
theorem dX2_reservesOf_14 : decode cX2_reservesOf 14 = .ok (.invokestatic 229, 3) := by decide +kernel
theorem dX2_reservesOf_17 : decode cX2_reservesOf 17 = .ok (.ifCond .eq 12, 3) := by decide +kernel
theorem dX2_reservesOf_20 : decode cX2_reservesOf 20 = .ok (.iload_n 2, 1) := by decide +kernel
theorem dX2_reservesOf_21 : decode cX2_reservesOf 21 = .ok (.aload_n 0, 1) := by decide +kernel
theorem dX2_reservesOf_22 : decode cX2_reservesOf 22 = .ok (.getfield 9, 3) := by decide +kernel
theorem dX2_reservesOf_25 : decode cX2_reservesOf 25 = .ok (.iload_n 3, 1) := by decide +kernel
theorem dX2_reservesOf_26 : decode cX2_reservesOf 26 = .ok (.iaload, 1) := by decide +kernel
theorem dX2_reservesOf_27 : decode cX2_reservesOf 27 = .ok (.iadd, 1) := by decide +kernel
theorem dX2_reservesOf_28 : decode cX2_reservesOf 28 = .ok (.istore_n 2, 1) := by decide +kernel
theorem dX2_reservesOf_29 : decode cX2_reservesOf 29 = .ok (.iinc 3 1, 3) := by decide +kernel
theorem dX2_reservesOf_32 : decode cX2_reservesOf 32 = .ok (.goto (-28), 3) := by decide +kernel
theorem dX2_reservesOf_35 : decode cX2_reservesOf 35 = .ok (.iload_n 2, 1) := by decide +kernel
theorem dX2_reservesOf_36 : decode cX2_reservesOf 36 = .ok (.ireturn, 1) := by decide +kernel
theorem dX2_hasField_0 : decode cX2_hasField 0 = .ok (.iload_n 0, 1) := by decide +kernel
theorem dX2_hasField_1 : decode cX2_hasField 1 = .ok (.iconst 1, 1) := by decide +kernel
theorem dX2_hasField_2 : decode cX2_hasField 2 = .ok (.iload_n 1, 1) := by decide +kernel
theorem dX2_hasField_3 : decode cX2_hasField 3 = .ok (.ishl, 1) := by decide +kernel
theorem dX2_hasField_4 : decode cX2_hasField 4 = .ok (.iand, 1) := by decide +kernel
theorem dX2_hasField_5 : decode cX2_hasField 5 = .ok (.ifCond .eq 7, 3) := by decide +kernel
theorem dX2_hasField_8 : decode cX2_hasField 8 = .ok (.iconst 1, 1) := by decide +kernel
theorem dX2_hasField_9 : decode cX2_hasField 9 = .ok (.goto 4, 3) := by decide +kernel
theorem dX2_hasField_12 : decode cX2_hasField 12 = .ok (.iconst 0, 1) := by decide +kernel
theorem dX2_hasField_13 : decode cX2_hasField 13 = .ok (.ireturn, 1) := by decide +kernel
theorem dX2_counts_0 : decode cX2_counts 0 = .ok (.aload_n 0, 1) := by decide +kernel
theorem dX2_counts_1 : decode cX2_counts 1 = .ok (.getfield 32, 3) := by decide +kernel
theorem dX2_counts_4 : decode cX2_counts 4 = .ok (.iload_n 1, 1) := by decide +kernel
theorem dX2_counts_5 : decode cX2_counts 5 = .ok (.baload, 1) := by decide +kernel
theorem dX2_counts_6 : decode cX2_counts 6 = .ok (.ifCond .ne 30, 3) := by decide +kernel
theorem dX2_counts_9 : decode cX2_counts 9 = .ok (.aload_n 0, 1) := by decide +kernel
theorem dX2_counts_10 : decode cX2_counts 10 = .ok (.getfield 13, 3) := by decide +kernel
theorem dX2_counts_13 : decode cX2_counts 13 = .ok (.aload_n 0, 1) := by decide +kernel
theorem dX2_counts_14 : decode cX2_counts 14 = .ok (.getfield 17, 3) := by decide +kernel
theorem dX2_counts_17 : decode cX2_counts 17 = .ok (.iload_n 1, 1) := by decide +kernel
theorem dX2_counts_18 : decode cX2_counts 18 = .ok (.iaload, 1) := by decide +kernel
theorem dX2_counts_19 : decode cX2_counts 19 = .ok (.baload, 1) := by decide +kernel
theorem dX2_counts_20 : decode cX2_counts 20 = .ok (.ifCond .eq 16, 3) := by decide +kernel
theorem dX2_counts_23 : decode cX2_counts 23 = .ok (.aload_n 0, 1) := by decide +kernel
theorem dX2_counts_24 : decode cX2_counts 24 = .ok (.getfield 26, 3) := by decide +kernel
theorem dX2_counts_27 : decode cX2_counts 27 = .ok (.iload_n 1, 1) := by decide +kernel
theorem dX2_counts_28 : decode cX2_counts 28 = .ok (.iaload, 1) := by decide +kernel
theorem dX2_counts_29 : decode cX2_counts 29 = .ok (.ifCond .lt 7, 3) := by decide +kernel
theorem dX2_counts_32 : decode cX2_counts 32 = .ok (.iconst 1, 1) := by decide +kernel
theorem dX2_counts_33 : decode cX2_counts 33 = .ok (.goto 4, 3) := by decide +kernel
theorem dX2_counts_36 : decode cX2_counts 36 = .ok (.iconst 0, 1) := by decide +kernel
theorem dX2_counts_37 : decode cX2_counts 37 = .ok (.ireturn, 1) := by decide +kernel
set_option maxRecDepth 20000 in
theorem ggX2_bidsLeft_X2_bidsLeftOf : GoodIn wsX2_bidsLeft wsX2_bidsLeftOf := goodIn_r _ [6, 7, 8, 9, 10, 11, 12, 13, 14, 15, 16, 17, 18, 19, 20, 21, 22, 23] (by decide +kernel) (by decide +kernel)
set_option maxRecDepth 20000 in
theorem gX2_bidsLeft_X2_bidsLeftOf : GoodIn wsX2_bidsLeft (wsV RX2 123 RX2 yX2_bidsLeftOf wsX2_bidsLeftOf) := goodIn_app (goodIn_of _ (by decide +kernel)) ggX2_bidsLeft_X2_bidsLeftOf
theorem dX2_bidsLeft_0 : decode cX2_bidsLeft 0 = .ok (.iconst 0, 1) := by decide +kernel
theorem dX2_bidsLeft_1 : decode cX2_bidsLeft 1 = .ok (.istore_n 1, 1) := by decide +kernel
theorem dX2_bidsLeft_2 : decode cX2_bidsLeft 2 = .ok (.iconst 0, 1) := by decide +kernel
theorem dX2_bidsLeft_3 : decode cX2_bidsLeft 3 = .ok (.istore_n 2, 1) := by decide +kernel
theorem dX2_bidsLeft_4 : decode cX2_bidsLeft 4 = .ok (.iload_n 2, 1) := by decide +kernel
theorem dX2_bidsLeft_5 : decode cX2_bidsLeft 5 = .ok (.aload_n 0, 1) := by decide +kernel
theorem dX2_bidsLeft_6 : decode cX2_bidsLeft 6 = .ok (.getfield 81, 3) := by decide +kernel
theorem dX2_bidsLeft_9 : decode cX2_bidsLeft 9 = .ok (.if_icmp .ge 17, 3) := by decide +kernel
theorem dX2_bidsLeft_12 : decode cX2_bidsLeft 12 = .ok (.iload_n 1, 1) := by decide +kernel
theorem dX2_bidsLeft_13 : decode cX2_bidsLeft 13 = .ok (.aload_n 0, 1) := by decide +kernel
theorem dX2_bidsLeft_14 : decode cX2_bidsLeft 14 = .ok (.iload_n 2, 1) := by decide +kernel
theorem dX2_bidsLeft_15 : decode cX2_bidsLeft 15 = .ok (.invokevirtual 123, 3) := by decide +kernel
theorem dX2_bidsLeft_18 : decode cX2_bidsLeft 18 = .ok (.iadd, 1) := by decide +kernel
theorem dX2_bidsLeft_19 : decode cX2_bidsLeft 19 = .ok (.istore_n 1, 1) := by decide +kernel
theorem dX2_bidsLeft_20 : decode cX2_bidsLeft 20 = .ok (.iinc 2 1, 3) := by decide +kernel
theorem dX2_bidsLeft_23 : decode cX2_bidsLeft 23 = .ok (.goto (-19), 3) := by decide +kernel
theorem dX2_bidsLeft_26 : decode cX2_bidsLeft 26 = .ok (.iload_n 1, 1) := by decide +kernel
theorem dX2_bidsLeft_27 : decode cX2_bidsLeft 27 = .ok (.ireturn, 1) := by decide +kernel
theorem dX2_bidsLeftOf_0 : decode cX2_bidsLeftOf 0 = .ok (.iconst 0, 1) := by decide +kernel
theorem dX2_bidsLeftOf_1 : decode cX2_bidsLeftOf 1 = .ok (.istore_n 2, 1) := by decide +kernel
theorem dX2_bidsLeftOf_2 : decode cX2_bidsLeftOf 2 = .ok (.iconst 0, 1) := by decide +kernel
theorem dX2_bidsLeftOf_3 : decode cX2_bidsLeftOf 3 = .ok (.istore_n 3, 1) := by decide +kernel
theorem dX2_bidsLeftOf_4 : decode cX2_bidsLeftOf 4 = .ok (.iload_n 3, 1) := by decide +kernel
theorem dX2_bidsLeftOf_5 : decode cX2_bidsLeftOf 5 = .ok (.aload_n 0, 1) := by decide +kernel
theorem dX2_bidsLeftOf_6 : decode cX2_bidsLeftOf 6 = .ok (.getfield 74, 3) := by decide +kernel
theorem dX2_bidsLeftOf_9 : decode cX2_bidsLeftOf 9 = .ok (.if_icmp .ge 31, 3) := by decide +kernel
theorem dX2_bidsLeftOf_12 : decode cX2_bidsLeftOf 12 = .ok (.aload_n 0, 1) := by decide +kernel
theorem dX2_bidsLeftOf_13 : decode cX2_bidsLeftOf 13 = .ok (.getfield 17, 3) := by decide +kernel
theorem dX2_bidsLeftOf_16 : decode cX2_bidsLeftOf 16 = .ok (.iload_n 3, 1) := by decide +kernel
theorem dX2_bidsLeftOf_17 : decode cX2_bidsLeftOf 17 = .ok (.iaload, 1) := by decide +kernel
theorem dX2_bidsLeftOf_18 : decode cX2_bidsLeftOf 18 = .ok (.iload_n 1, 1) := by decide +kernel
theorem dX2_bidsLeftOf_19 : decode cX2_bidsLeftOf 19 = .ok (.if_icmp .ne 15, 3) := by decide +kernel
theorem dX2_bidsLeftOf_22 : decode cX2_bidsLeftOf 22 = .ok (.aload_n 0, 1) := by decide +kernel
theorem dX2_bidsLeftOf_23 : decode cX2_bidsLeftOf 23 = .ok (.getfield 32, 3) := by decide +kernel
theorem dX2_bidsLeftOf_26 : decode cX2_bidsLeftOf 26 = .ok (.iload_n 3, 1) := by decide +kernel
theorem dX2_bidsLeftOf_27 : decode cX2_bidsLeftOf 27 = .ok (.baload, 1) := by decide +kernel
theorem dX2_bidsLeftOf_28 : decode cX2_bidsLeftOf 28 = .ok (.ifCond .ne 6, 3) := by decide +kernel
theorem dX2_bidsLeftOf_31 : decode cX2_bidsLeftOf 31 = .ok (.iinc 2 1, 3) := by decide +kernel
theorem dX2_bidsLeftOf_34 : decode cX2_bidsLeftOf 34 = .ok (.iinc 3 1, 3) := by decide +kernel
theorem dX2_bidsLeftOf_37 : decode cX2_bidsLeftOf 37 = .ok (.goto (-33), 3) := by decide +kernel
theorem dX2_bidsLeftOf_40 : decode cX2_bidsLeftOf 40 = .ok (.iload_n 2, 1) := by decide +kernel
theorem dX2_bidsLeftOf_41 : decode cX2_bidsLeftOf 41 = .ok (.ireturn, 1) := by decide +kernel
set_option maxRecDepth 20000 in
theorem ggX2_countingBidsWith_X2_counts : GoodIn wsX2_countingBidsWith wsX2_counts := goodIn_r _ [7, 8, 9, 10, 11, 15, 16, 17, 18, 19, 20, 21, 22, 23, 24, 25, 26, 27, 28] (by decide +kernel) (by decide +kernel)
set_option maxRecDepth 20000 in
theorem gX2_countingBidsWith_X2_counts : GoodIn wsX2_countingBidsWith (wsV RX2 113 RX2 yX2_counts wsX2_counts) := goodIn_app (goodIn_of _ (by decide +kernel)) ggX2_countingBidsWith_X2_counts
set_option maxRecDepth 20000 in
theorem ggX2_countingBidsWith_X2_hasField : GoodIn wsX2_countingBidsWith wsX2_hasField := goodIn_r _ [14] (by decide +kernel) (by decide +kernel)
set_option maxRecDepth 20000 in
theorem gX2_countingBidsWith_X2_hasField : GoodIn wsX2_countingBidsWith (va_wsS RX2 229 yX2_hasField wsX2_hasField) := goodIn_app (goodIn_of _ (by decide +kernel)) ggX2_countingBidsWith_X2_hasField
theorem dX2_countingBidsWith_0 : decode cX2_countingBidsWith 0 = .ok (.iconst 0, 1) := by decide +kernel
theorem dX2_countingBidsWith_1 : decode cX2_countingBidsWith 1 = .ok (.istore_n 2, 1) := by decide +kernel
theorem dX2_countingBidsWith_2 : decode cX2_countingBidsWith 2 = .ok (.iconst 0, 1) := by decide +kernel
theorem dX2_countingBidsWith_3 : decode cX2_countingBidsWith 3 = .ok (.istore_n 3, 1) := by decide +kernel
theorem dX2_countingBidsWith_4 : decode cX2_countingBidsWith 4 = .ok (.iload_n 3, 1) := by decide +kernel
theorem dX2_countingBidsWith_5 : decode cX2_countingBidsWith 5 = .ok (.aload_n 0, 1) := by decide +kernel
theorem dX2_countingBidsWith_6 : decode cX2_countingBidsWith 6 = .ok (.getfield 74, 3) := by decide +kernel
theorem dX2_countingBidsWith_9 : decode cX2_countingBidsWith 9 = .ok (.if_icmp .ge 33, 3) := by decide +kernel
theorem dX2_countingBidsWith_12 : decode cX2_countingBidsWith 12 = .ok (.aload_n 0, 1) := by decide +kernel
theorem dX2_countingBidsWith_13 : decode cX2_countingBidsWith 13 = .ok (.iload_n 3, 1) := by decide +kernel
theorem dX2_countingBidsWith_14 : decode cX2_countingBidsWith 14 = .ok (.invokevirtual 113, 3) := by decide +kernel
theorem dX2_countingBidsWith_17 : decode cX2_countingBidsWith 17 = .ok (.ifCond .eq 19, 3) := by decide +kernel
theorem dX2_countingBidsWith_20 : decode cX2_countingBidsWith 20 = .ok (.aload_n 0, 1) := by decide +kernel
theorem dX2_countingBidsWith_21 : decode cX2_countingBidsWith 21 = .ok (.getfield 20, 3) := by decide +kernel
theorem dX2_countingBidsWith_24 : decode cX2_countingBidsWith 24 = .ok (.iload_n 3, 1) := by decide +kernel
theorem dX2_countingBidsWith_25 : decode cX2_countingBidsWith 25 = .ok (.iaload, 1) := by decide +kernel
theorem dX2_countingBidsWith_26 : decode cX2_countingBidsWith 26 = .ok (.iload_n 1, 1) := by decide +kernel
theorem dX2_countingBidsWith_27 : decode cX2_countingBidsWith 27 = .ok (.invokestatic 229, 3) := by decide +kernel
theorem dX2_countingBidsWith_30 : decode cX2_countingBidsWith 30 = .ok (.ifCond .eq 6, 3) := by decide +kernel
theorem dX2_countingBidsWith_33 : decode cX2_countingBidsWith 33 = .ok (.iinc 2 1, 3) := by decide +kernel
theorem dX2_countingBidsWith_36 : decode cX2_countingBidsWith 36 = .ok (.iinc 3 1, 3) := by decide +kernel
theorem dX2_countingBidsWith_39 : decode cX2_countingBidsWith 39 = .ok (.goto (-35), 3) := by decide +kernel
theorem dX2_countingBidsWith_42 : decode cX2_countingBidsWith 42 = .ok (.iload_n 2, 1) := by decide +kernel
theorem dX2_countingBidsWith_43 : decode cX2_countingBidsWith 43 = .ok (.ireturn, 1) := by decide +kernel
theorem dX2_ownerOf_0 : decode cX2_ownerOf 0 = .ok (.iload_n 1, 1) := by decide +kernel
theorem dX2_ownerOf_1 : decode cX2_ownerOf 1 = .ok (.iconst (-1), 1) := by decide +kernel
theorem dX2_ownerOf_2 : decode cX2_ownerOf 2 = .ok (.if_icmp .ne 7, 3) := by decide +kernel
theorem dX2_ownerOf_5 : decode cX2_ownerOf 5 = .ok (.iconst (-1), 1) := by decide +kernel
theorem dX2_ownerOf_6 : decode cX2_ownerOf 6 = .ok (.goto 9, 3) := by decide +kernel
theorem dX2_ownerOf_9 : decode cX2_ownerOf 9 = .ok (.aload_n 0, 1) := by decide +kernel
theorem dX2_ownerOf_10 : decode cX2_ownerOf 10 = .ok (.getfield 17, 3) := by decide +kernel
theorem dX2_ownerOf_13 : decode cX2_ownerOf 13 = .ok (.iload_n 1, 1) := by decide +kernel
theorem dX2_ownerOf_14 : decode cX2_ownerOf 14 = .ok (.iaload, 1) := by decide +kernel
theorem dX2_ownerOf_15 : decode cX2_ownerOf 15 = .ok (.ireturn, 1) := by decide +kernel
theorem dX2_asNumber_0 : decode cX2_asNumber 0 = .ok (.iload_n 0, 1) := by decide +kernel
theorem dX2_asNumber_1 : decode cX2_asNumber 1 = .ok (.ifCond .eq 7, 3) := by decide +kernel
theorem dX2_asNumber_4 : decode cX2_asNumber 4 = .ok (.iconst 1, 1) := by decide +kernel
theorem dX2_asNumber_5 : decode cX2_asNumber 5 = .ok (.goto 4, 3) := by decide +kernel
theorem dX2_asNumber_8 : decode cX2_asNumber 8 = .ok (.iconst 0, 1) := by decide +kernel
theorem dX2_asNumber_9 : decode cX2_asNumber 9 = .ok (.ireturn, 1) := by decide +kernel
set_option maxRecDepth 20000 in
theorem ggX2_settle_X1_clear : GoodIn wsX2_settle wsX1_clear := goodIn_r _ [7, 8, 9, 10, 11, 12, 13, 14, 15, 16, 17, 18, 19, 20, 21, 74, 75, 76, 77, 92, 93] (by decide +kernel) (by decide +kernel)
set_option maxRecDepth 20000 in
theorem gX2_settle_X1_clear_n232 : GoodIn wsX2_settle (wsX1_clear) := ggX2_settle_X1_clear
set_option maxRecDepth 20000 in
theorem ggX2_settle_X2_findWinners : GoodIn wsX2_settle wsX2_findWinners := goodIn_r _ [26, 12, 13, 14, 15, 16, 17, 27, 28, 29, 25, 30, 3, 31, 32, 33, 34, 35, 36, 37, 38, 39, 40, 41, 42, 43, 44, 45, 46, 47, 48, 49, 50, 51, 52, 53, 54, 55, 56, 57, 92, 93, 78, 79, 80, 81, 82, 83, 84, 85, 86, 87, 88, 89, 90, 91] (by decide +kernel) (by decide +kernel)
set_option maxRecDepth 20000 in
theorem gX2_settle_X2_findWinners : GoodIn wsX2_settle (wsV RX2 235 RX2 yX2_findWinners wsX2_findWinners) := goodIn_app (goodIn_of _ (by decide +kernel)) ggX2_settle_X2_findWinners
set_option maxRecDepth 20000 in
theorem ggX2_settle_X0_has : GoodIn wsX2_settle wsX0_has := goodIn_r _ [60, 17, 92, 93] (by decide +kernel) (by decide +kernel)
set_option maxRecDepth 20000 in
theorem gX2_settle_X0_has_n120 : GoodIn wsX2_settle (wsX0_has) := ggX2_settle_X0_has
set_option maxRecDepth 20000 in
theorem ggX2_settle_X2_award : GoodIn wsX2_settle wsX2_award := goodIn_r _ [64, 49, 51, 50, 65, 66, 67, 25, 68, 69, 70, 71, 72, 73, 78, 79, 80, 81, 82, 83, 84, 85, 86, 87, 88, 89, 90, 91, 74, 75, 76, 77, 92, 93] (by decide +kernel) (by decide +kernel)
set_option maxRecDepth 20000 in
theorem gX2_settle_X2_award : GoodIn wsX2_settle (wsV RX2 239 RX2 yX2_award wsX2_award) := goodIn_app (goodIn_of _ (by decide +kernel)) ggX2_settle_X2_award
theorem dX2_settle_0 : decode cX2_settle 0 = .ok (.aload_n 1, 1) := by decide +kernel
theorem dX2_settle_1 : decode cX2_settle 1 = .ok (.invokevirtual 232, 3) := by decide +kernel
theorem dX2_settle_4 : decode cX2_settle 4 = .ok (.aload_n 0, 1) := by decide +kernel
theorem dX2_settle_5 : decode cX2_settle 5 = .ok (.aload_n 1, 1) := by decide +kernel
theorem dX2_settle_6 : decode cX2_settle 6 = .ok (.getfield 117, 3) := by decide +kernel
theorem dX2_settle_9 : decode cX2_settle 9 = .ok (.iload_n 2, 1) := by decide +kernel
theorem dX2_settle_10 : decode cX2_settle 10 = .ok (.invokevirtual 235, 3) := by decide +kernel
theorem dX2_settle_13 : decode cX2_settle 13 = .ok (.iconst 0, 1) := by decide +kernel
theorem dX2_settle_14 : decode cX2_settle 14 = .ok (.istore_n 3, 1) := by decide +kernel
theorem dX2_settle_15 : decode cX2_settle 15 = .ok (.iload_n 3, 1) := by decide +kernel
theorem dX2_settle_16 : decode cX2_settle 16 = .ok (.aload_n 0, 1) := by decide +kernel
theorem dX2_settle_17 : decode cX2_settle 17 = .ok (.getfield 81, 3) := by decide +kernel
theorem dX2_settle_20 : decode cX2_settle 20 = .ok (.if_icmp .ge 35, 3) := by decide +kernel
theorem dX2_settle_23 : decode cX2_settle 23 = .ok (.aload_n 0, 1) := by decide +kernel
theorem dX2_settle_24 : decode cX2_settle 24 = .ok (.aload_n 0, 1) := by decide +kernel
theorem dX2_settle_25 : decode cX2_settle 25 = .ok (.getfield 48, 3) := by decide +kernel
theorem dX2_settle_28 : decode cX2_settle 28 = .ok (.iload_n 2, 1) := by decide +kernel
theorem dX2_settle_29 : decode cX2_settle 29 = .ok (.iconst 1, 1) := by decide +kernel
theorem dX2_settle_30 : decode cX2_settle 30 = .ok (.iload_n 3, 1) := by decide +kernel
theorem dX2_settle_31 : decode cX2_settle 31 = .ok (.ishl, 1) := by decide +kernel
theorem dX2_settle_32 : decode cX2_settle 32 = .ok (.ior, 1) := by decide +kernel
theorem dX2_settle_33 : decode cX2_settle 33 = .ok (.invokevirtual 235, 3) := by decide +kernel
theorem dX2_settle_36 : decode cX2_settle 36 = .ok (.aload_n 1, 1) := by decide +kernel
theorem dX2_settle_37 : decode cX2_settle 37 = .ok (.getfield 137, 3) := by decide +kernel
theorem dX2_settle_40 : decode cX2_settle 40 = .ok (.iload_n 3, 1) := by decide +kernel
theorem dX2_settle_41 : decode cX2_settle 41 = .ok (.aload_n 0, 1) := by decide +kernel
theorem dX2_settle_42 : decode cX2_settle 42 = .ok (.getfield 48, 3) := by decide +kernel
theorem dX2_settle_45 : decode cX2_settle 45 = .ok (.getfield 149, 3) := by decide +kernel
theorem dX2_settle_48 : decode cX2_settle 48 = .ok (.iastore, 1) := by decide +kernel
theorem dX2_settle_49 : decode cX2_settle 49 = .ok (.iinc 3 1, 3) := by decide +kernel
theorem dX2_settle_52 : decode cX2_settle 52 = .ok (.goto (-37), 3) := by decide +kernel
theorem dX2_settle_55 : decode cX2_settle 55 = .ok (.iconst 0, 1) := by decide +kernel
theorem dX2_settle_56 : decode cX2_settle 56 = .ok (.istore_n 3, 1) := by decide +kernel
theorem dX2_settle_57 : decode cX2_settle 57 = .ok (.iload_n 3, 1) := by decide +kernel
theorem dX2_settle_58 : decode cX2_settle 58 = .ok (.aload_n 0, 1) := by decide +kernel
theorem dX2_settle_59 : decode cX2_settle 59 = .ok (.getfield 74, 3) := by decide +kernel
theorem dX2_settle_62 : decode cX2_settle 62 = .ok (.if_icmp .ge 26, 3) := by decide +kernel
theorem dX2_settle_65 : decode cX2_settle 65 = .ok (.aload_n 1, 1) := by decide +kernel
theorem dX2_settle_66 : decode cX2_settle 66 = .ok (.getfield 117, 3) := by decide +kernel
theorem dX2_settle_69 : decode cX2_settle 69 = .ok (.iload_n 3, 1) := by decide +kernel
theorem dX2_settle_70 : decode cX2_settle 70 = .ok (.invokevirtual 120, 3) := by decide +kernel
theorem dX2_settle_73 : decode cX2_settle 73 = .ok (.ifCond .eq 9, 3) := by decide +kernel
theorem dX2_settle_76 : decode cX2_settle 76 = .ok (.aload_n 0, 1) := by decide +kernel
theorem dX2_settle_77 : decode cX2_settle 77 = .ok (.aload_n 1, 1) := by decide +kernel
theorem dX2_settle_78 : decode cX2_settle 78 = .ok (.iload_n 3, 1) := by decide +kernel
theorem dX2_settle_79 : decode cX2_settle 79 = .ok (.invokevirtual 239, 3) := by decide +kernel
theorem dX2_settle_82 : decode cX2_settle 82 = .ok (.iinc 3 1, 3) := by decide +kernel
theorem dX2_settle_85 : decode cX2_settle 85 = .ok (.goto (-28), 3) := by decide +kernel
theorem dX2_settle_88 : decode cX2_settle 88 = .ok (.return_, 1) := by decide +kernel
set_option maxRecDepth 20000 in
theorem ggX2_award_X2_reservesOf : GoodIn wsX2_award wsX2_reservesOf := goodIn_r _ [8, 9, 10, 11, 12, 7, 13, 14, 15, 16, 17, 18, 19, 20, 21, 22, 23, 24, 25, 26, 27] (by decide +kernel) (by decide +kernel)
set_option maxRecDepth 20000 in
theorem gX2_award_X2_reservesOf : GoodIn wsX2_award (wsV RX2 226 RX2 yX2_reservesOf wsX2_reservesOf) := goodIn_app (goodIn_of _ (by decide +kernel)) ggX2_award_X2_reservesOf
theorem dX2_award_0 : decode cX2_award 0 = .ok (.aload_n 0, 1) := by decide +kernel
theorem dX2_award_1 : decode cX2_award 1 = .ok (.getfield 17, 3) := by decide +kernel
theorem dX2_award_4 : decode cX2_award 4 = .ok (.iload_n 2, 1) := by decide +kernel
theorem dX2_award_5 : decode cX2_award 5 = .ok (.iaload, 1) := by decide +kernel
theorem dX2_award_6 : decode cX2_award 6 = .ok (.istore_n 3, 1) := by decide +kernel
theorem dX2_award_7 : decode cX2_award 7 = .ok (.aload_n 1, 1) := by decide +kernel
theorem dX2_award_8 : decode cX2_award 8 = .ok (.getfield 117, 3) := by decide +kernel
theorem dX2_award_11 : decode cX2_award 11 = .ok (.getfield 149, 3) := by decide +kernel
theorem dX2_award_14 : decode cX2_award 14 = .ok (.aload_n 0, 1) := by decide +kernel
theorem dX2_award_15 : decode cX2_award 15 = .ok (.getfield 26, 3) := by decide +kernel
theorem dX2_award_18 : decode cX2_award 18 = .ok (.iload_n 2, 1) := by decide +kernel
theorem dX2_award_19 : decode cX2_award 19 = .ok (.iaload, 1) := by decide +kernel
theorem dX2_award_20 : decode cX2_award 20 = .ok (.isub, 1) := by decide +kernel
theorem dX2_award_21 : decode cX2_award 21 = .ok (.istore 4, 2) := by decide +kernel
theorem dX2_award_23 : decode cX2_award 23 = .ok (.aload_n 1, 1) := by decide +kernel
theorem dX2_award_24 : decode cX2_award 24 = .ok (.getfield 127, 3) := by decide +kernel
theorem dX2_award_27 : decode cX2_award 27 = .ok (.iload_n 3, 1) := by decide +kernel
theorem dX2_award_28 : decode cX2_award 28 = .ok (.iload_n 2, 1) := by decide +kernel
theorem dX2_award_29 : decode cX2_award 29 = .ok (.iastore, 1) := by decide +kernel
theorem dX2_award_30 : decode cX2_award 30 = .ok (.aload_n 1, 1) := by decide +kernel
theorem dX2_award_31 : decode cX2_award 31 = .ok (.getfield 130, 3) := by decide +kernel
theorem dX2_award_34 : decode cX2_award 34 = .ok (.iload_n 3, 1) := by decide +kernel
theorem dX2_award_35 : decode cX2_award 35 = .ok (.aload_n 0, 1) := by decide +kernel
theorem dX2_award_36 : decode cX2_award 36 = .ok (.aload_n 0, 1) := by decide +kernel
theorem dX2_award_37 : decode cX2_award 37 = .ok (.getfield 20, 3) := by decide +kernel
theorem dX2_award_40 : decode cX2_award 40 = .ok (.iload_n 2, 1) := by decide +kernel
theorem dX2_award_41 : decode cX2_award 41 = .ok (.iaload, 1) := by decide +kernel
theorem dX2_award_42 : decode cX2_award 42 = .ok (.invokevirtual 226, 3) := by decide +kernel
theorem dX2_award_45 : decode cX2_award 45 = .ok (.aload_n 1, 1) := by decide +kernel
theorem dX2_award_46 : decode cX2_award 46 = .ok (.getfield 137, 3) := by decide +kernel
theorem dX2_award_49 : decode cX2_award 49 = .ok (.iload_n 3, 1) := by decide +kernel
theorem dX2_award_50 : decode cX2_award 50 = .ok (.iaload, 1) := by decide +kernel
theorem dX2_award_51 : decode cX2_award 51 = .ok (.iadd, 1) := by decide +kernel
theorem dX2_award_52 : decode cX2_award 52 = .ok (.iload 4, 2) := by decide +kernel
theorem dX2_award_54 : decode cX2_award 54 = .ok (.isub, 1) := by decide +kernel
theorem dX2_award_55 : decode cX2_award 55 = .ok (.iastore, 1) := by decide +kernel
theorem dX2_award_56 : decode cX2_award 56 = .ok (.return_, 1) := by decide +kernel
set_option maxRecDepth 20000 in
theorem ggX2_findWinners_X0_clear : GoodIn wsX2_findWinners wsX0_clear := goodIn_r _ [4, 5, 6, 40, 41] (by decide +kernel) (by decide +kernel)
set_option maxRecDepth 20000 in
theorem gX2_findWinners_X0_clear_n242 : GoodIn wsX2_findWinners (wsX0_clear) := ggX2_findWinners_X0_clear
set_option maxRecDepth 20000 in
theorem ggX2_findWinners_X2_seek : GoodIn wsX2_findWinners wsX2_seek := goodIn_r _ [11, 12, 13, 2, 14, 15, 5, 6, 16, 17, 18, 19, 20, 21, 22, 23, 24, 25, 26, 27, 28, 29, 10, 30, 31, 32, 33, 34, 35, 36, 37, 38, 39, 7, 8, 9, 42, 43, 44, 45, 46, 47, 48, 49, 50, 51, 52, 53, 54, 55, 40, 41] (by decide +kernel) (by decide +kernel)
set_option maxRecDepth 20000 in
theorem gX2_findWinners_X2_seek : GoodIn wsX2_findWinners (wsV RX2 243 RX2 yX2_seek wsX2_seek) := goodIn_app (goodIn_of _ (by decide +kernel)) ggX2_findWinners_X2_seek
theorem dX2_findWinners_0 : decode cX2_findWinners 0 = .ok (.aload_n 1, 1) := by decide +kernel
theorem dX2_findWinners_1 : decode cX2_findWinners 1 = .ok (.invokevirtual 242, 3) := by decide +kernel
theorem dX2_findWinners_4 : decode cX2_findWinners 4 = .ok (.aload_n 0, 1) := by decide +kernel
theorem dX2_findWinners_5 : decode cX2_findWinners 5 = .ok (.aload_n 1, 1) := by decide +kernel
theorem dX2_findWinners_6 : decode cX2_findWinners 6 = .ok (.iconst 0, 1) := by decide +kernel
theorem dX2_findWinners_7 : decode cX2_findWinners 7 = .ok (.iconst 0, 1) := by decide +kernel
theorem dX2_findWinners_8 : decode cX2_findWinners 8 = .ok (.iload_n 2, 1) := by decide +kernel
theorem dX2_findWinners_9 : decode cX2_findWinners 9 = .ok (.iconst 0, 1) := by decide +kernel
theorem dX2_findWinners_10 : decode cX2_findWinners 10 = .ok (.iconst 0, 1) := by decide +kernel
theorem dX2_findWinners_11 : decode cX2_findWinners 11 = .ok (.invokevirtual 243, 3) := by decide +kernel
theorem dX2_findWinners_14 : decode cX2_findWinners 14 = .ok (.return_, 1) := by decide +kernel
set_option maxRecDepth 20000 in
theorem ggX2_seek_X0_consider : GoodIn wsX2_seek wsX0_consider := goodIn_r _ [5, 6, 7, 8, 9, 10, 3, 11, 12, 13, 14, 15, 16, 17, 18, 50, 51] (by decide +kernel) (by decide +kernel)
set_option maxRecDepth 20000 in
theorem gX2_seek_X0_consider_n247 : GoodIn wsX2_seek (wsX0_consider) := ggX2_seek_X0_consider
set_option maxRecDepth 20000 in
theorem ggX2_seek_X2_seekWith : GoodIn wsX2_seek wsX2_seekWith := goodIn_r _ [23, 24, 25, 26, 27, 28, 29, 22, 30, 31, 32, 33, 34, 35, 0, 1, 2, 3, 4, 5, 6, 7, 8, 9, 10, 11, 12, 13, 14, 15, 16, 17, 18, 19, 20, 21, 36, 37, 38, 39, 40, 41, 42, 43, 44, 45, 46, 47, 48, 49, 50, 51] (by decide +kernel) (by decide +kernel)
set_option maxRecDepth 20000 in
theorem gX2_seek_X2_seekWith : GoodIn wsX2_seek (wsV RX2 250 RX2 yX2_seekWith wsX2_seekWith) := goodIn_app (goodIn_of _ (by decide +kernel)) ggX2_seek_X2_seekWith
theorem dX2_seek_0 : decode cX2_seek 0 = .ok (.aload_n 1, 1) := by decide +kernel
theorem dX2_seek_1 : decode cX2_seek 1 = .ok (.iload 5, 2) := by decide +kernel
theorem dX2_seek_3 : decode cX2_seek 3 = .ok (.iload 6, 2) := by decide +kernel
theorem dX2_seek_5 : decode cX2_seek 5 = .ok (.invokevirtual 247, 3) := by decide +kernel
theorem dX2_seek_8 : decode cX2_seek 8 = .ok (.iload_n 2, 1) := by decide +kernel
theorem dX2_seek_9 : decode cX2_seek 9 = .ok (.istore 7, 2) := by decide +kernel
theorem dX2_seek_11 : decode cX2_seek 11 = .ok (.iload 7, 2) := by decide +kernel
theorem dX2_seek_13 : decode cX2_seek 13 = .ok (.aload_n 0, 1) := by decide +kernel
theorem dX2_seek_14 : decode cX2_seek 14 = .ok (.getfield 74, 3) := by decide +kernel
theorem dX2_seek_17 : decode cX2_seek 17 = .ok (.if_icmp .ge 23, 3) := by decide +kernel
theorem dX2_seek_20 : decode cX2_seek 20 = .ok (.aload_n 0, 1) := by decide +kernel
theorem dX2_seek_21 : decode cX2_seek 21 = .ok (.aload_n 1, 1) := by decide +kernel
theorem dX2_seek_22 : decode cX2_seek 22 = .ok (.iload 7, 2) := by decide +kernel
theorem dX2_seek_24 : decode cX2_seek 24 = .ok (.iload_n 3, 1) := by decide +kernel
theorem dX2_seek_25 : decode cX2_seek 25 = .ok (.iload 4, 2) := by decide +kernel
theorem dX2_seek_27 : decode cX2_seek 27 = .ok (.iload 5, 2) := by decide +kernel
theorem dX2_seek_29 : decode cX2_seek 29 = .ok (.iload 6, 2) := by decide +kernel
theorem dX2_seek_31 : decode cX2_seek 31 = .ok (.invokevirtual 250, 3) := by decide +kernel
theorem dX2_seek_34 : decode cX2_seek 34 = .ok (.iinc 7 1, 3) := by decide +kernel
theorem dX2_seek_37 : decode cX2_seek 37 = .ok (.goto (-26), 3) := by decide +kernel
theorem dX2_seek_40 : decode cX2_seek 40 = .ok (.return_, 1) := by decide +kernel
set_option maxRecDepth 20000 in
theorem ggX2_seekWith_X2_counts : GoodIn wsX2_seekWith wsX2_counts := goodIn_r _ [8, 9, 10, 1, 3, 36, 37, 38, 39, 40, 41, 42, 43, 44, 45, 46, 47, 48, 49] (by decide +kernel) (by decide +kernel)
set_option maxRecDepth 20000 in
theorem gX2_seekWith_X2_counts : GoodIn wsX2_seekWith (wsV RX2 113 RX2 yX2_counts wsX2_counts) := goodIn_app (goodIn_of _ (by decide +kernel)) ggX2_seekWith_X2_counts
set_option maxRecDepth 20000 in
theorem ggX2_seekWith_X2_seek : GoodIn wsX2_seekWith wsX2_seek := goodIn_r _ [14, 15, 16, 17, 18, 19, 20, 21, 22, 23, 24, 25, 26, 27, 28, 29, 30, 31, 32, 33, 34, 35, 7, 0, 1, 2, 3, 4, 5, 6, 8, 9, 10, 11, 12, 13, 36, 37, 38, 39, 40, 41, 42, 43, 44, 45, 46, 47, 48, 49, 50, 51] (by decide +kernel) (by decide +kernel)
set_option maxRecDepth 20000 in
theorem gX2_seekWith_X2_seek : GoodIn wsX2_seekWith (wsV RX2 243 RX2 yX2_seek wsX2_seek) := goodIn_app (goodIn_of _ (by decide +kernel)) ggX2_seekWith_X2_seek
theorem dX2_seekWith_0 : decode cX2_seekWith 0 = .ok (.iconst 1, 1) := by decide +kernel
theorem dX2_seekWith_1 : decode cX2_seekWith 1 = .ok (.aload_n 0, 1) := by decide +kernel
theorem dX2_seekWith_2 : decode cX2_seekWith 2 = .ok (.getfield 17, 3) := by decide +kernel
theorem dX2_seekWith_5 : decode cX2_seekWith 5 = .ok (.iload_n 2, 1) := by decide +kernel
theorem dX2_seekWith_6 : decode cX2_seekWith 6 = .ok (.iaload, 1) := by decide +kernel
theorem dX2_seekWith_7 : decode cX2_seekWith 7 = .ok (.ishl, 1) := by decide +kernel
theorem dX2_seekWith_8 : decode cX2_seekWith 8 = .ok (.istore 7, 2) := by decide +kernel
theorem dX2_seekWith_10 : decode cX2_seekWith 10 = .ok (.iload_n 3, 1) := by decide +kernel
theorem dX2_seekWith_11 : decode cX2_seekWith 11 = .ok (.aload_n 0, 1) := by decide +kernel
theorem dX2_seekWith_12 : decode cX2_seekWith 12 = .ok (.getfield 20, 3) := by decide +kernel
theorem dX2_seekWith_15 : decode cX2_seekWith 15 = .ok (.iload_n 2, 1) := by decide +kernel
theorem dX2_seekWith_16 : decode cX2_seekWith 16 = .ok (.iaload, 1) := by decide +kernel
theorem dX2_seekWith_17 : decode cX2_seekWith 17 = .ok (.iand, 1) := by decide +kernel
theorem dX2_seekWith_18 : decode cX2_seekWith 18 = .ok (.ifCond .ne 11, 3) := by decide +kernel
theorem dX2_seekWith_21 : decode cX2_seekWith 21 = .ok (.iload 4, 2) := by decide +kernel
theorem dX2_seekWith_23 : decode cX2_seekWith 23 = .ok (.iload 7, 2) := by decide +kernel
theorem dX2_seekWith_25 : decode cX2_seekWith 25 = .ok (.iand, 1) := by decide +kernel
theorem dX2_seekWith_26 : decode cX2_seekWith 26 = .ok (.ifCond .eq 7, 3) := by decide +kernel
theorem dX2_seekWith_29 : decode cX2_seekWith 29 = .ok (.iconst 1, 1) := by decide +kernel
theorem dX2_seekWith_30 : decode cX2_seekWith 30 = .ok (.goto 4, 3) := by decide +kernel
theorem dX2_seekWith_33 : decode cX2_seekWith 33 = .ok (.iconst 0, 1) := by decide +kernel
theorem dX2_seekWith_34 : decode cX2_seekWith 34 = .ok (.istore 8, 2) := by decide +kernel
theorem dX2_seekWith_36 : decode cX2_seekWith 36 = .ok (.iload 8, 2) := by decide +kernel
theorem dX2_seekWith_38 : decode cX2_seekWith 38 = .ok (.ifCond .ne 11, 3) := by decide +kernel
theorem dX2_seekWith_41 : decode cX2_seekWith 41 = .ok (.aload_n 0, 1) := by decide +kernel
theorem dX2_seekWith_42 : decode cX2_seekWith 42 = .ok (.iload_n 2, 1) := by decide +kernel
theorem dX2_seekWith_43 : decode cX2_seekWith 43 = .ok (.invokevirtual 113, 3) := by decide +kernel
theorem dX2_seekWith_46 : decode cX2_seekWith 46 = .ok (.ifCond .ne 4, 3) := by decide +kernel
theorem dX2_seekWith_49 : decode cX2_seekWith 49 = .ok (.return_, 1) := by decide +kernel
theorem dX2_seekWith_50 : decode cX2_seekWith 50 = .ok (.aload_n 0, 1) := by decide +kernel
theorem dX2_seekWith_51 : decode cX2_seekWith 51 = .ok (.aload_n 1, 1) := by decide +kernel
theorem dX2_seekWith_52 : decode cX2_seekWith 52 = .ok (.iload_n 2, 1) := by decide +kernel
theorem dX2_seekWith_53 : decode cX2_seekWith 53 = .ok (.iconst 1, 1) := by decide +kernel
theorem dX2_seekWith_54 : decode cX2_seekWith 54 = .ok (.iadd, 1) := by decide +kernel
theorem dX2_seekWith_55 : decode cX2_seekWith 55 = .ok (.iload_n 3, 1) := by decide +kernel
theorem dX2_seekWith_56 : decode cX2_seekWith 56 = .ok (.aload_n 0, 1) := by decide +kernel
theorem dX2_seekWith_57 : decode cX2_seekWith 57 = .ok (.getfield 20, 3) := by decide +kernel
theorem dX2_seekWith_60 : decode cX2_seekWith 60 = .ok (.iload_n 2, 1) := by decide +kernel
theorem dX2_seekWith_61 : decode cX2_seekWith 61 = .ok (.iaload, 1) := by decide +kernel
theorem dX2_seekWith_62 : decode cX2_seekWith 62 = .ok (.ior, 1) := by decide +kernel
theorem dX2_seekWith_63 : decode cX2_seekWith 63 = .ok (.iload 4, 2) := by decide +kernel
theorem dX2_seekWith_65 : decode cX2_seekWith 65 = .ok (.iload 7, 2) := by decide +kernel
theorem dX2_seekWith_67 : decode cX2_seekWith 67 = .ok (.ior, 1) := by decide +kernel
theorem dX2_seekWith_68 : decode cX2_seekWith 68 = .ok (.iload 5, 2) := by decide +kernel
theorem dX2_seekWith_70 : decode cX2_seekWith 70 = .ok (.aload_n 0, 1) := by decide +kernel
theorem dX2_seekWith_71 : decode cX2_seekWith 71 = .ok (.getfield 26, 3) := by decide +kernel
theorem dX2_seekWith_74 : decode cX2_seekWith 74 = .ok (.iload_n 2, 1) := by decide +kernel
theorem dX2_seekWith_75 : decode cX2_seekWith 75 = .ok (.iaload, 1) := by decide +kernel
theorem dX2_seekWith_76 : decode cX2_seekWith 76 = .ok (.iadd, 1) := by decide +kernel
theorem dX2_seekWith_77 : decode cX2_seekWith 77 = .ok (.iload 6, 2) := by decide +kernel
theorem dX2_seekWith_79 : decode cX2_seekWith 79 = .ok (.iconst 1, 1) := by decide +kernel
theorem dX2_seekWith_80 : decode cX2_seekWith 80 = .ok (.iload_n 2, 1) := by decide +kernel
theorem dX2_seekWith_81 : decode cX2_seekWith 81 = .ok (.ishl, 1) := by decide +kernel
theorem dX2_seekWith_82 : decode cX2_seekWith 82 = .ok (.ior, 1) := by decide +kernel
theorem dX2_seekWith_83 : decode cX2_seekWith 83 = .ok (.invokevirtual 243, 3) := by decide +kernel
theorem dX2_seekWith_86 : decode cX2_seekWith 86 = .ok (.return_, 1) := by decide +kernel
theorem dX2_profit_0 : decode cX2_profit 0 = .ok (.aload_n 1, 1) := by decide +kernel
theorem dX2_profit_1 : decode cX2_profit 1 = .ok (.getfield 127, 3) := by decide +kernel
theorem dX2_profit_4 : decode cX2_profit 4 = .ok (.iload_n 2, 1) := by decide +kernel
theorem dX2_profit_5 : decode cX2_profit 5 = .ok (.iaload, 1) := by decide +kernel
theorem dX2_profit_6 : decode cX2_profit 6 = .ok (.istore_n 3, 1) := by decide +kernel
theorem dX2_profit_7 : decode cX2_profit 7 = .ok (.iload_n 3, 1) := by decide +kernel
theorem dX2_profit_8 : decode cX2_profit 8 = .ok (.iconst (-1), 1) := by decide +kernel
theorem dX2_profit_9 : decode cX2_profit 9 = .ok (.if_icmp .ne 7, 3) := by decide +kernel
theorem dX2_profit_12 : decode cX2_profit 12 = .ok (.iconst 0, 1) := by decide +kernel
theorem dX2_profit_13 : decode cX2_profit 13 = .ok (.goto 16, 3) := by decide +kernel
theorem dX2_profit_16 : decode cX2_profit 16 = .ok (.aload_n 0, 1) := by decide +kernel
theorem dX2_profit_17 : decode cX2_profit 17 = .ok (.getfield 29, 3) := by decide +kernel
theorem dX2_profit_20 : decode cX2_profit 20 = .ok (.iload_n 3, 1) := by decide +kernel
theorem dX2_profit_21 : decode cX2_profit 21 = .ok (.iaload, 1) := by decide +kernel
theorem dX2_profit_22 : decode cX2_profit 22 = .ok (.aload_n 1, 1) := by decide +kernel
theorem dX2_profit_23 : decode cX2_profit 23 = .ok (.getfield 130, 3) := by decide +kernel
theorem dX2_profit_26 : decode cX2_profit 26 = .ok (.iload_n 2, 1) := by decide +kernel
theorem dX2_profit_27 : decode cX2_profit 27 = .ok (.iaload, 1) := by decide +kernel
theorem dX2_profit_28 : decode cX2_profit 28 = .ok (.isub, 1) := by decide +kernel
theorem dX2_profit_29 : decode cX2_profit 29 = .ok (.ireturn, 1) := by decide +kernel
set_option maxRecDepth 20000 in
theorem ggX2_totalProfit_X2_profit : GoodIn wsX2_totalProfit wsX2_profit := goodIn_r _ [7, 8, 23, 24, 25, 26, 9, 10, 11, 12, 13, 14, 15, 16, 17, 18, 19, 20, 21, 22] (by decide +kernel) (by decide +kernel)
set_option maxRecDepth 20000 in
theorem gX2_totalProfit_X2_profit : GoodIn wsX2_totalProfit (wsV RX2 133 RX2 yX2_profit wsX2_profit) := goodIn_app (goodIn_of _ (by decide +kernel)) ggX2_totalProfit_X2_profit
theorem dX2_totalProfit_0 : decode cX2_totalProfit 0 = .ok (.iconst 0, 1) := by decide +kernel
theorem dX2_totalProfit_1 : decode cX2_totalProfit 1 = .ok (.istore_n 1, 1) := by decide +kernel
theorem dX2_totalProfit_2 : decode cX2_totalProfit 2 = .ok (.iconst 0, 1) := by decide +kernel
theorem dX2_totalProfit_3 : decode cX2_totalProfit 3 = .ok (.istore_n 2, 1) := by decide +kernel
theorem dX2_totalProfit_4 : decode cX2_totalProfit 4 = .ok (.iload_n 2, 1) := by decide +kernel
theorem dX2_totalProfit_5 : decode cX2_totalProfit 5 = .ok (.aload_n 0, 1) := by decide +kernel
theorem dX2_totalProfit_6 : decode cX2_totalProfit 6 = .ok (.getfield 81, 3) := by decide +kernel
theorem dX2_totalProfit_9 : decode cX2_totalProfit 9 = .ok (.if_icmp .ge 21, 3) := by decide +kernel
theorem dX2_totalProfit_12 : decode cX2_totalProfit 12 = .ok (.iload_n 1, 1) := by decide +kernel
theorem dX2_totalProfit_13 : decode cX2_totalProfit 13 = .ok (.aload_n 0, 1) := by decide +kernel
theorem dX2_totalProfit_14 : decode cX2_totalProfit 14 = .ok (.aload_n 0, 1) := by decide +kernel
theorem dX2_totalProfit_15 : decode cX2_totalProfit 15 = .ok (.getfield 38, 3) := by decide +kernel
theorem dX2_totalProfit_18 : decode cX2_totalProfit 18 = .ok (.iload_n 2, 1) := by decide +kernel
theorem dX2_totalProfit_19 : decode cX2_totalProfit 19 = .ok (.invokevirtual 133, 3) := by decide +kernel
theorem dX2_totalProfit_22 : decode cX2_totalProfit 22 = .ok (.iadd, 1) := by decide +kernel
theorem dX2_totalProfit_23 : decode cX2_totalProfit 23 = .ok (.istore_n 1, 1) := by decide +kernel
theorem dX2_totalProfit_24 : decode cX2_totalProfit 24 = .ok (.iinc 2 1, 3) := by decide +kernel
theorem dX2_totalProfit_27 : decode cX2_totalProfit 27 = .ok (.goto (-23), 3) := by decide +kernel
theorem dX2_totalProfit_30 : decode cX2_totalProfit 30 = .ok (.iload_n 1, 1) := by decide +kernel
theorem dX2_totalProfit_31 : decode cX2_totalProfit 31 = .ok (.ireturn, 1) := by decide +kernel
set_option maxRecDepth 20000 in
theorem ggX2_winningPrices_X0_has : GoodIn wsX2_winningPrices wsX0_has := goodIn_r _ [7, 8, 27, 28] (by decide +kernel) (by decide +kernel)
set_option maxRecDepth 20000 in
theorem gX2_winningPrices_X0_has_n120 : GoodIn wsX2_winningPrices (wsX0_has) := ggX2_winningPrices_X0_has
theorem dX2_winningPrices_0 : decode cX2_winningPrices 0 = .ok (.iconst 0, 1) := by decide +kernel
theorem dX2_winningPrices_1 : decode cX2_winningPrices 1 = .ok (.istore_n 1, 1) := by decide +kernel
theorem dX2_winningPrices_2 : decode cX2_winningPrices 2 = .ok (.iconst 0, 1) := by decide +kernel
theorem dX2_winningPrices_3 : decode cX2_winningPrices 3 = .ok (.istore_n 2, 1) := by decide +kernel
theorem dX2_winningPrices_4 : decode cX2_winningPrices 4 = .ok (.iload_n 2, 1) := by decide +kernel
theorem dX2_winningPrices_5 : decode cX2_winningPrices 5 = .ok (.aload_n 0, 1) := by decide +kernel
theorem dX2_winningPrices_6 : decode cX2_winningPrices 6 = .ok (.getfield 74, 3) := by decide +kernel
theorem dX2_winningPrices_9 : decode cX2_winningPrices 9 = .ok (.if_icmp .ge 32, 3) := by decide +kernel
theorem dX2_winningPrices_12 : decode cX2_winningPrices 12 = .ok (.aload_n 0, 1) := by decide +kernel
theorem dX2_winningPrices_13 : decode cX2_winningPrices 13 = .ok (.getfield 38, 3) := by decide +kernel
theorem dX2_winningPrices_16 : decode cX2_winningPrices 16 = .ok (.getfield 117, 3) := by decide +kernel
theorem dX2_winningPrices_19 : decode cX2_winningPrices 19 = .ok (.iload_n 2, 1) := by decide +kernel
theorem dX2_winningPrices_20 : decode cX2_winningPrices 20 = .ok (.invokevirtual 120, 3) := by decide +kernel
theorem dX2_winningPrices_23 : decode cX2_winningPrices 23 = .ok (.ifCond .eq 12, 3) := by decide +kernel
theorem dX2_winningPrices_26 : decode cX2_winningPrices 26 = .ok (.iload_n 1, 1) := by decide +kernel
theorem dX2_winningPrices_27 : decode cX2_winningPrices 27 = .ok (.aload_n 0, 1) := by decide +kernel
theorem dX2_winningPrices_28 : decode cX2_winningPrices 28 = .ok (.getfield 23, 3) := by decide +kernel
theorem dX2_winningPrices_31 : decode cX2_winningPrices 31 = .ok (.iload_n 2, 1) := by decide +kernel
theorem dX2_winningPrices_32 : decode cX2_winningPrices 32 = .ok (.iaload, 1) := by decide +kernel
theorem dX2_winningPrices_33 : decode cX2_winningPrices 33 = .ok (.iadd, 1) := by decide +kernel
theorem dX2_winningPrices_34 : decode cX2_winningPrices 34 = .ok (.istore_n 1, 1) := by decide +kernel
theorem dX2_winningPrices_35 : decode cX2_winningPrices 35 = .ok (.iinc 2 1, 3) := by decide +kernel
theorem dX2_winningPrices_38 : decode cX2_winningPrices 38 = .ok (.goto (-34), 3) := by decide +kernel
theorem dX2_winningPrices_41 : decode cX2_winningPrices 41 = .ok (.iload_n 1, 1) := by decide +kernel
theorem dX2_winningPrices_42 : decode cX2_winningPrices 42 = .ok (.ireturn, 1) := by decide +kernel
set_option maxRecDepth 20000 in
theorem ggX2_soldFields_X0_has : GoodIn wsX2_soldFields wsX0_has := goodIn_r _ [7, 8, 27, 28] (by decide +kernel) (by decide +kernel)
set_option maxRecDepth 20000 in
theorem gX2_soldFields_X0_has_n120 : GoodIn wsX2_soldFields (wsX0_has) := ggX2_soldFields_X0_has
theorem dX2_soldFields_0 : decode cX2_soldFields 0 = .ok (.iconst 0, 1) := by decide +kernel
theorem dX2_soldFields_1 : decode cX2_soldFields 1 = .ok (.istore_n 1, 1) := by decide +kernel
theorem dX2_soldFields_2 : decode cX2_soldFields 2 = .ok (.iconst 0, 1) := by decide +kernel
theorem dX2_soldFields_3 : decode cX2_soldFields 3 = .ok (.istore_n 2, 1) := by decide +kernel
theorem dX2_soldFields_4 : decode cX2_soldFields 4 = .ok (.iload_n 2, 1) := by decide +kernel
theorem dX2_soldFields_5 : decode cX2_soldFields 5 = .ok (.aload_n 0, 1) := by decide +kernel
theorem dX2_soldFields_6 : decode cX2_soldFields 6 = .ok (.getfield 74, 3) := by decide +kernel
theorem dX2_soldFields_9 : decode cX2_soldFields 9 = .ok (.if_icmp .ge 32, 3) := by decide +kernel
theorem dX2_soldFields_12 : decode cX2_soldFields 12 = .ok (.aload_n 0, 1) := by decide +kernel
theorem dX2_soldFields_13 : decode cX2_soldFields 13 = .ok (.getfield 38, 3) := by decide +kernel
theorem dX2_soldFields_16 : decode cX2_soldFields 16 = .ok (.getfield 117, 3) := by decide +kernel
theorem dX2_soldFields_19 : decode cX2_soldFields 19 = .ok (.iload_n 2, 1) := by decide +kernel
theorem dX2_soldFields_20 : decode cX2_soldFields 20 = .ok (.invokevirtual 120, 3) := by decide +kernel
theorem dX2_soldFields_23 : decode cX2_soldFields 23 = .ok (.ifCond .eq 12, 3) := by decide +kernel
theorem dX2_soldFields_26 : decode cX2_soldFields 26 = .ok (.iload_n 1, 1) := by decide +kernel
theorem dX2_soldFields_27 : decode cX2_soldFields 27 = .ok (.aload_n 0, 1) := by decide +kernel
theorem dX2_soldFields_28 : decode cX2_soldFields 28 = .ok (.getfield 20, 3) := by decide +kernel
theorem dX2_soldFields_31 : decode cX2_soldFields 31 = .ok (.iload_n 2, 1) := by decide +kernel
theorem dX2_soldFields_32 : decode cX2_soldFields 32 = .ok (.iaload, 1) := by decide +kernel
theorem dX2_soldFields_33 : decode cX2_soldFields 33 = .ok (.ior, 1) := by decide +kernel
theorem dX2_soldFields_34 : decode cX2_soldFields 34 = .ok (.istore_n 1, 1) := by decide +kernel
theorem dX2_soldFields_35 : decode cX2_soldFields 35 = .ok (.iinc 2 1, 3) := by decide +kernel
theorem dX2_soldFields_38 : decode cX2_soldFields 38 = .ok (.goto (-34), 3) := by decide +kernel
theorem dX2_soldFields_41 : decode cX2_soldFields 41 = .ok (.iload_n 1, 1) := by decide +kernel
theorem dX2_soldFields_42 : decode cX2_soldFields 42 = .ok (.ireturn, 1) := by decide +kernel
set_option maxRecDepth 20000 in
theorem ggX2_winnerOfField_X0_has : GoodIn wsX2_winnerOfField wsX0_has := goodIn_r _ [7, 8, 31, 32] (by decide +kernel) (by decide +kernel)
set_option maxRecDepth 20000 in
theorem gX2_winnerOfField_X0_has_n120 : GoodIn wsX2_winnerOfField (wsX0_has) := ggX2_winnerOfField_X0_has
set_option maxRecDepth 20000 in
theorem ggX2_winnerOfField_X2_hasField : GoodIn wsX2_winnerOfField wsX2_hasField := goodIn_r _ [12] (by decide +kernel) (by decide +kernel)
set_option maxRecDepth 20000 in
theorem gX2_winnerOfField_X2_hasField : GoodIn wsX2_winnerOfField (va_wsS RX2 229 yX2_hasField wsX2_hasField) := goodIn_app (goodIn_of _ (by decide +kernel)) ggX2_winnerOfField_X2_hasField
theorem dX2_winnerOfField_0 : decode cX2_winnerOfField 0 = .ok (.iconst 0, 1) := by decide +kernel
theorem dX2_winnerOfField_1 : decode cX2_winnerOfField 1 = .ok (.istore_n 2, 1) := by decide +kernel
theorem dX2_winnerOfField_2 : decode cX2_winnerOfField 2 = .ok (.iload_n 2, 1) := by decide +kernel
theorem dX2_winnerOfField_3 : decode cX2_winnerOfField 3 = .ok (.aload_n 0, 1) := by decide +kernel
theorem dX2_winnerOfField_4 : decode cX2_winnerOfField 4 = .ok (.getfield 74, 3) := by decide +kernel
theorem dX2_winnerOfField_7 : decode cX2_winnerOfField 7 = .ok (.if_icmp .ge 38, 3) := by decide +kernel
theorem dX2_winnerOfField_10 : decode cX2_winnerOfField 10 = .ok (.aload_n 0, 1) := by decide +kernel
theorem dX2_winnerOfField_11 : decode cX2_winnerOfField 11 = .ok (.getfield 38, 3) := by decide +kernel
theorem dX2_winnerOfField_14 : decode cX2_winnerOfField 14 = .ok (.getfield 117, 3) := by decide +kernel
theorem dX2_winnerOfField_17 : decode cX2_winnerOfField 17 = .ok (.iload_n 2, 1) := by decide +kernel
theorem dX2_winnerOfField_18 : decode cX2_winnerOfField 18 = .ok (.invokevirtual 120, 3) := by decide +kernel
theorem dX2_winnerOfField_21 : decode cX2_winnerOfField 21 = .ok (.ifCond .eq 18, 3) := by decide +kernel
theorem dX2_winnerOfField_24 : decode cX2_winnerOfField 24 = .ok (.aload_n 0, 1) := by decide +kernel
theorem dX2_winnerOfField_25 : decode cX2_winnerOfField 25 = .ok (.getfield 20, 3) := by decide +kernel
theorem dX2_winnerOfField_28 : decode cX2_winnerOfField 28 = .ok (.iload_n 2, 1) := by decide +kernel
theorem dX2_winnerOfField_29 : decode cX2_winnerOfField 29 = .ok (.iaload, 1) := by decide +kernel
theorem dX2_winnerOfField_30 : decode cX2_winnerOfField 30 = .ok (.iload_n 1, 1) := by decide +kernel
theorem dX2_winnerOfField_31 : decode cX2_winnerOfField 31 = .ok (.invokestatic 229, 3) := by decide +kernel
theorem dX2_winnerOfField_34 : decode cX2_winnerOfField 34 = .ok (.ifCond .eq 5, 3) := by decide +kernel
theorem dX2_winnerOfField_37 : decode cX2_winnerOfField 37 = .ok (.iload_n 2, 1) := by decide +kernel
theorem dX2_winnerOfField_38 : decode cX2_winnerOfField 38 = .ok (.ireturn, 1) := by decide +kernel
theorem dX2_winnerOfField_39 : decode cX2_winnerOfField 39 = .ok (.iinc 2 1, 3) := by decide +kernel
theorem dX2_winnerOfField_42 : decode cX2_winnerOfField 42 = .ok (.goto (-40), 3) := by decide +kernel
theorem dX2_winnerOfField_45 : decode cX2_winnerOfField 45 = .ok (.iconst (-1), 1) := by decide +kernel
theorem dX2_winnerOfField_46 : decode cX2_winnerOfField 46 = .ok (.ireturn, 1) := by decide +kernel
set_option maxRecDepth 20000 in
theorem ggX2_highestAlone_X2_counts : GoodIn wsX2_highestAlone wsX2_counts := goodIn_r _ [9, 10, 11, 3, 12, 13, 14, 15, 16, 17, 18, 19, 20, 21, 22, 23, 24, 25, 26] (by decide +kernel) (by decide +kernel)
set_option maxRecDepth 20000 in
theorem gX2_highestAlone_X2_counts : GoodIn wsX2_highestAlone (wsV RX2 113 RX2 yX2_counts wsX2_counts) := goodIn_app (goodIn_of _ (by decide +kernel)) ggX2_highestAlone_X2_counts
theorem dX2_highestAlone_0 : decode cX2_highestAlone 0 = .ok (.iconst (-1), 1) := by decide +kernel
theorem dX2_highestAlone_1 : decode cX2_highestAlone 1 = .ok (.istore_n 3, 1) := by decide +kernel
theorem dX2_highestAlone_2 : decode cX2_highestAlone 2 = .ok (.iconst 0, 1) := by decide +kernel
theorem dX2_highestAlone_3 : decode cX2_highestAlone 3 = .ok (.istore 4, 2) := by decide +kernel
theorem dX2_highestAlone_5 : decode cX2_highestAlone 5 = .ok (.iload 4, 2) := by decide +kernel
theorem dX2_highestAlone_7 : decode cX2_highestAlone 7 = .ok (.aload_n 0, 1) := by decide +kernel
theorem dX2_highestAlone_8 : decode cX2_highestAlone 8 = .ok (.getfield 74, 3) := by decide +kernel
theorem dX2_highestAlone_11 : decode cX2_highestAlone 11 = .ok (.if_icmp .ge 78, 3) := by decide +kernel
theorem dX2_highestAlone_14 : decode cX2_highestAlone 14 = .ok (.aload_n 0, 1) := by decide +kernel
theorem dX2_highestAlone_15 : decode cX2_highestAlone 15 = .ok (.iload 4, 2) := by decide +kernel
theorem dX2_highestAlone_17 : decode cX2_highestAlone 17 = .ok (.invokevirtual 113, 3) := by decide +kernel
theorem dX2_highestAlone_20 : decode cX2_highestAlone 20 = .ok (.ifCond .eq 31, 3) := by decide +kernel
theorem dX2_highestAlone_23 : decode cX2_highestAlone 23 = .ok (.aload_n 0, 1) := by decide +kernel
theorem dX2_highestAlone_24 : decode cX2_highestAlone 24 = .ok (.getfield 20, 3) := by decide +kernel
theorem dX2_highestAlone_27 : decode cX2_highestAlone 27 = .ok (.iload 4, 2) := by decide +kernel
theorem dX2_highestAlone_29 : decode cX2_highestAlone 29 = .ok (.iaload, 1) := by decide +kernel
theorem dX2_highestAlone_30 : decode cX2_highestAlone 30 = .ok (.iconst 1, 1) := by decide +kernel
theorem dX2_highestAlone_31 : decode cX2_highestAlone 31 = .ok (.iload_n 1, 1) := by decide +kernel
theorem dX2_highestAlone_32 : decode cX2_highestAlone 32 = .ok (.ishl, 1) := by decide +kernel
theorem dX2_highestAlone_33 : decode cX2_highestAlone 33 = .ok (.if_icmp .ne 18, 3) := by decide +kernel
theorem dX2_highestAlone_36 : decode cX2_highestAlone 36 = .ok (.aload_n 0, 1) := by decide +kernel
theorem dX2_highestAlone_37 : decode cX2_highestAlone 37 = .ok (.getfield 17, 3) := by decide +kernel
theorem dX2_highestAlone_40 : decode cX2_highestAlone 40 = .ok (.iload 4, 2) := by decide +kernel
theorem dX2_highestAlone_42 : decode cX2_highestAlone 42 = .ok (.iaload, 1) := by decide +kernel
theorem dX2_highestAlone_43 : decode cX2_highestAlone 43 = .ok (.iload_n 2, 1) := by decide +kernel
theorem dX2_highestAlone_44 : decode cX2_highestAlone 44 = .ok (.if_icmp .eq 7, 3) := by decide +kernel
theorem dX2_highestAlone_47 : decode cX2_highestAlone 47 = .ok (.iconst 1, 1) := by decide +kernel
theorem dX2_highestAlone_48 : decode cX2_highestAlone 48 = .ok (.goto 4, 3) := by decide +kernel
theorem dX2_highestAlone_51 : decode cX2_highestAlone 51 = .ok (.iconst 0, 1) := by decide +kernel
theorem dX2_highestAlone_52 : decode cX2_highestAlone 52 = .ok (.istore 5, 2) := by decide +kernel
theorem dX2_highestAlone_54 : decode cX2_highestAlone 54 = .ok (.iload 5, 2) := by decide +kernel
theorem dX2_highestAlone_56 : decode cX2_highestAlone 56 = .ok (.ifCond .eq 27, 3) := by decide +kernel
theorem dX2_highestAlone_59 : decode cX2_highestAlone 59 = .ok (.iload_n 3, 1) := by decide +kernel
theorem dX2_highestAlone_60 : decode cX2_highestAlone 60 = .ok (.iconst (-1), 1) := by decide +kernel
theorem dX2_highestAlone_61 : decode cX2_highestAlone 61 = .ok (.if_icmp .eq 19, 3) := by decide +kernel
theorem dX2_highestAlone_64 : decode cX2_highestAlone 64 = .ok (.aload_n 0, 1) := by decide +kernel
theorem dX2_highestAlone_65 : decode cX2_highestAlone 65 = .ok (.getfield 23, 3) := by decide +kernel
theorem dX2_highestAlone_68 : decode cX2_highestAlone 68 = .ok (.iload 4, 2) := by decide +kernel
theorem dX2_highestAlone_70 : decode cX2_highestAlone 70 = .ok (.iaload, 1) := by decide +kernel
theorem dX2_highestAlone_71 : decode cX2_highestAlone 71 = .ok (.aload_n 0, 1) := by decide +kernel
theorem dX2_highestAlone_72 : decode cX2_highestAlone 72 = .ok (.getfield 23, 3) := by decide +kernel
theorem dX2_highestAlone_75 : decode cX2_highestAlone 75 = .ok (.iload_n 3, 1) := by decide +kernel
theorem dX2_highestAlone_76 : decode cX2_highestAlone 76 = .ok (.iaload, 1) := by decide +kernel
theorem dX2_highestAlone_77 : decode cX2_highestAlone 77 = .ok (.if_icmp .le 6, 3) := by decide +kernel
theorem dX2_highestAlone_80 : decode cX2_highestAlone 80 = .ok (.iload 4, 2) := by decide +kernel
theorem dX2_highestAlone_82 : decode cX2_highestAlone 82 = .ok (.istore_n 3, 1) := by decide +kernel
theorem dX2_highestAlone_83 : decode cX2_highestAlone 83 = .ok (.iinc 4 1, 3) := by decide +kernel
theorem dX2_highestAlone_86 : decode cX2_highestAlone 86 = .ok (.goto (-81), 3) := by decide +kernel
theorem dX2_highestAlone_89 : decode cX2_highestAlone 89 = .ok (.iload_n 3, 1) := by decide +kernel
theorem dX2_highestAlone_90 : decode cX2_highestAlone 90 = .ok (.ireturn, 1) := by decide +kernel
set_option maxRecDepth 20000 in
theorem ggX2_secondPrice_X2_highestAlone : GoodIn wsX2_secondPrice wsX2_highestAlone := goodIn_r _ [8, 9, 10, 1, 3, 11, 12, 13, 7, 14, 15, 16, 17, 18, 19, 20, 21, 22, 23, 24, 25, 26, 27, 28, 29, 30, 31] (by decide +kernel) (by decide +kernel)
set_option maxRecDepth 20000 in
theorem gX2_secondPrice_X2_highestAlone : GoodIn wsX2_secondPrice (wsV RX2 172 RX2 yX2_highestAlone wsX2_highestAlone) := goodIn_app (goodIn_of _ (by decide +kernel)) ggX2_secondPrice_X2_highestAlone
theorem dX2_secondPrice_0 : decode cX2_secondPrice 0 = .ok (.aload_n 0, 1) := by decide +kernel
theorem dX2_secondPrice_1 : decode cX2_secondPrice 1 = .ok (.iload_n 1, 1) := by decide +kernel
theorem dX2_secondPrice_2 : decode cX2_secondPrice 2 = .ok (.aload_n 0, 1) := by decide +kernel
theorem dX2_secondPrice_3 : decode cX2_secondPrice 3 = .ok (.getfield 17, 3) := by decide +kernel
theorem dX2_secondPrice_6 : decode cX2_secondPrice 6 = .ok (.iload_n 2, 1) := by decide +kernel
theorem dX2_secondPrice_7 : decode cX2_secondPrice 7 = .ok (.iaload, 1) := by decide +kernel
theorem dX2_secondPrice_8 : decode cX2_secondPrice 8 = .ok (.invokevirtual 172, 3) := by decide +kernel
theorem dX2_secondPrice_11 : decode cX2_secondPrice 11 = .ok (.istore_n 3, 1) := by decide +kernel
theorem dX2_secondPrice_12 : decode cX2_secondPrice 12 = .ok (.iload_n 3, 1) := by decide +kernel
theorem dX2_secondPrice_13 : decode cX2_secondPrice 13 = .ok (.iconst (-1), 1) := by decide +kernel
theorem dX2_secondPrice_14 : decode cX2_secondPrice 14 = .ok (.if_icmp .ne 12, 3) := by decide +kernel
theorem dX2_secondPrice_17 : decode cX2_secondPrice 17 = .ok (.aload_n 0, 1) := by decide +kernel
theorem dX2_secondPrice_18 : decode cX2_secondPrice 18 = .ok (.getfield 9, 3) := by decide +kernel
theorem dX2_secondPrice_21 : decode cX2_secondPrice 21 = .ok (.iload_n 1, 1) := by decide +kernel
theorem dX2_secondPrice_22 : decode cX2_secondPrice 22 = .ok (.iaload, 1) := by decide +kernel
theorem dX2_secondPrice_23 : decode cX2_secondPrice 23 = .ok (.goto 9, 3) := by decide +kernel
theorem dX2_secondPrice_26 : decode cX2_secondPrice 26 = .ok (.aload_n 0, 1) := by decide +kernel
theorem dX2_secondPrice_27 : decode cX2_secondPrice 27 = .ok (.getfield 23, 3) := by decide +kernel
theorem dX2_secondPrice_30 : decode cX2_secondPrice 30 = .ok (.iload_n 3, 1) := by decide +kernel
theorem dX2_secondPrice_31 : decode cX2_secondPrice 31 = .ok (.iaload, 1) := by decide +kernel
theorem dX2_secondPrice_32 : decode cX2_secondPrice 32 = .ok (.ireturn, 1) := by decide +kernel
end
section
/-! the claim's nest mates, casts and texts (printed out of the Statement's tables) -/
def zNW : List Cond := [.fieldLinkNest "PastureBids" 149 "PastureBids$BestSet" "gained" "I" "PastureBids", .fieldLinkNest "PastureBids" 152 "PastureBids$BestSet" "bids" "I" "PastureBids", .fieldLinkNest "PastureBids" 117 "PastureBids$Sale" "winners" "LPastureBids$BestSet;" "PastureBids", .fieldLinkNest "PastureBids" 127 "PastureBids$Sale" "winningBids" "[I" "PastureBids", .fieldLinkNest "PastureBids" 130 "PastureBids$Sale" "paid" "[I" "PastureBids", .fieldLinkNest "PastureBids" 137 "PastureBids$Sale" "gainedWithout" "[I" "PastureBids", .methodLinkNest "PastureBids" 37 ⟨"PastureBids$Sale", "<init>", "()V"⟩ "PastureBids", .methodLinkNest "PastureBids$Sale" 11 ⟨"PastureBids$BestSet", "<init>", "()V"⟩ "PastureBids", .methodLinkNest "PastureBids" 47 ⟨"PastureBids$BestSet", "<init>", "()V"⟩ "PastureBids", .methodLinkNest "PastureBids" 232 ⟨"PastureBids$Sale", "clear", "()V"⟩ "PastureBids", .methodLinkNest "PastureBids$Sale" 28 ⟨"PastureBids$BestSet", "clear", "()V"⟩ "PastureBids", .methodLinkNest "PastureBids" 242 ⟨"PastureBids$BestSet", "clear", "()V"⟩ "PastureBids", .methodLinkNest "PastureBids" 247 ⟨"PastureBids$BestSet", "consider", "(II)V"⟩ "PastureBids", .methodLinkNest "PastureBids" 120 ⟨"PastureBids$BestSet", "has", "(I)Z"⟩ "PastureBids", .methodLinkNest "PastureBids" 163 ⟨"PastureBids$Sale", "totalPaid", "()I"⟩ "PastureBids", .methodLinkNest "PastureBidsLaw" 64 ⟨"PastureBidsLaw$Sim", "<init>", "()V"⟩ "PastureBidsLaw"]
def zNok (w : Cond) : Prop := (∃ (a : String) (i : Nat) (b n d h : String), w = .fieldLinkNest a i b n d h) ∨ (∃ (a : String) (i : Nat) (x : MethodName) (h : String), w = .methodLinkNest a i x h) ∨ ∃ (a b : String), w = .castable a b
theorem zNW_ok : ∀ w ∈ zNW, zNok w := List.forall_mem_cons.mpr ⟨Or.inl ⟨_, _, _, _, _, _, rfl⟩, List.forall_mem_cons.mpr ⟨Or.inl ⟨_, _, _, _, _, _, rfl⟩, List.forall_mem_cons.mpr ⟨Or.inl ⟨_, _, _, _, _, _, rfl⟩, List.forall_mem_cons.mpr ⟨Or.inl ⟨_, _, _, _, _, _, rfl⟩, List.forall_mem_cons.mpr ⟨Or.inl ⟨_, _, _, _, _, _, rfl⟩, List.forall_mem_cons.mpr ⟨Or.inl ⟨_, _, _, _, _, _, rfl⟩, List.forall_mem_cons.mpr ⟨Or.inr (Or.inl ⟨_, _, _, _, rfl⟩), List.forall_mem_cons.mpr ⟨Or.inr (Or.inl ⟨_, _, _, _, rfl⟩), List.forall_mem_cons.mpr ⟨Or.inr (Or.inl ⟨_, _, _, _, rfl⟩), List.forall_mem_cons.mpr ⟨Or.inr (Or.inl ⟨_, _, _, _, rfl⟩), List.forall_mem_cons.mpr ⟨Or.inr (Or.inl ⟨_, _, _, _, rfl⟩), List.forall_mem_cons.mpr ⟨Or.inr (Or.inl ⟨_, _, _, _, rfl⟩), List.forall_mem_cons.mpr ⟨Or.inr (Or.inl ⟨_, _, _, _, rfl⟩), List.forall_mem_cons.mpr ⟨Or.inr (Or.inl ⟨_, _, _, _, rfl⟩), List.forall_mem_cons.mpr ⟨Or.inr (Or.inl ⟨_, _, _, _, rfl⟩), List.forall_mem_cons.mpr ⟨Or.inr (Or.inl ⟨_, _, _, _, rfl⟩), fun _ h => absurd h List.not_mem_nil⟩⟩⟩⟩⟩⟩⟩⟩⟩⟩⟩⟩⟩⟩⟩⟩
/-! THE Z-LAYER: a body's walk over data alone. zW speaks of a world (a list of cells), a list of locals and a stack; every row of the kit that is used has a sister here. -/
abbrev zG : Type := va_G × ClassId × ClassId × ClassId
abbrev zI (g : zG) : ClassId := g.2.1
abbrev zZ (g : zG) : ClassId := g.2.2.1
abbrev zJ (g : zG) : ClassId := g.2.2.2
def zT (g : zG) : List (ClassId × FieldType) := [(zI g, .int), (zZ g, .boolean), (zJ g, .array .int)]
abbrev zEnv : Type := Program × Env × State × MethodId × Array Value × List Frame × Method × Code × (Nat → Prop)
abbrev zp (E : zEnv) : Program := E.1
abbrev ze (E : zEnv) : Env := E.2.1
abbrev zs (E : zEnv) : State := E.2.2.1
abbrev zm (E : zEnv) : MethodId := E.2.2.2.1
abbrev za (E : zEnv) : Array Value := E.2.2.2.2.1
abbrev zbl (E : zEnv) : List Frame := E.2.2.2.2.2.1
abbrev zmt (E : zEnv) : Method := E.2.2.2.2.2.2.1
abbrev zcd (E : zEnv) : Code := E.2.2.2.2.2.2.2.1
abbrev zA (E : zEnv) : Nat → Prop := E.2.2.2.2.2.2.2.2
theorem zNok.warm {w : Cond} (hw : zNok w) {s U : State} (hW : s.WarmedH U.vm) (h : va_Nw w s) : va_Nw w U := by
  rcases hw with ⟨a, i, b, n, d, h9, rfl⟩ | ⟨a, i, x9, h9, rfl⟩ | ⟨a, b, rfl⟩
  · exact va_Nw.warmF hW h
  · exact va_Nw.warmM hW h
  · exact va_Nw.warmC hW h
theorem zNok.same {w : Cond} (hw : zNok w) {u U : State} (hv : u.vm = U.vm) (h : va_Nw w u) : va_Nw w U := by
  rcases hw with ⟨a, i, b, n, d, h9, rfl⟩ | ⟨a, i, x9, h9, rfl⟩ | ⟨a, b, rfl⟩
  · exact va_Nw.same rfl hv h
  · exact va_Nw.same rfl hv h
  · exact va_Nw.same rfl hv h
/-- what the tables say of an array of rows -/
def zKA (g : zG) (U : State) : Prop := ∃ kA : Class, U.vm.classes[zJ g]? = some kA ∧ kA.kind = .array (zI g) (.array .int)
theorem zKA.moved {g : zG} {u U : State} (hvm : u.vm.Alike U.vm) (h : zKA g u) : zKA g U := by
  obtain ⟨kA, h1, h2⟩ := h
  obtain ⟨k', hk', he⟩ := hvm.2.2 _ _ h1
  exact ⟨k', hk', by rw [he]; exact h2⟩
/-- what the tables say of making an array of rows -/
def zAO (U : State) : Prop := (Cond.arrayOver (.array .int)).before #[] U = true
theorem zAO.moved {u U : State} (hvm : u.vm.Alike U.vm) (h : zAO u) : zAO U := by
  obtain ⟨comp, c, k, h1, h2, h3, h4, h5⟩ := arrayOverA_spec h
  obtain ⟨k', hk', he⟩ := hvm.2.2 _ _ h3
  have hb : u.vm.bare = U.vm.bare := by first | exact hvm.bare_eq | exact hvm.bare_eq.symm
  have hi : (U.vm.classes.findIdx? fun (x : Class) => match x.kind with | .array component _ => component == comp | _ => false) = some c :=
    (va_idx_bare U.vm comp).symm.trans ((congrArg (fun v : Vm => v.classes.findIdx? fun (x : Class) => match x.kind with | .array component _ => component == comp | _ => false) hb.symm).trans ((va_idx_bare u.vm comp).trans h2))
  have hkind : k'.kind = .array comp (.array .int) := by rw [he]; exact h4
  have f1 : U.vm.findClass (FieldType.array .int).toString = some comp := by rw [hvm.findClass]; exact h1
  have f2 : U.vm.findClass ("[" ++ (FieldType.array .int).toString) = some c := by rw [hvm.findClass]; exact h5
  unfold zAO Cond.before Cond.holds
  simp only [Cond.value]
  rw [f1, Option.bind_some]
  refine (congrArg (fun o : Option Nat => (o.bind (fun c => (U.vm.classes[c]?).map fun (k : Class) => match k.kind with | .array _ ty => decide (ty = FieldType.array .int) && decide (U.vm.findClass ("[" ++ (FieldType.array .int).toString) = some c) | _ => false) == some true)) hi).trans ?_
  simp [hk', hkind, f2]
/-- what the tables say of classes, arrays, nest mates -/
def zK (g : zG) (U : State) : Prop := va_K g.1 vwCl (zT g) U ∧ (∀ w ∈ zNW, va_Nw w U) ∧ zKA g U ∧ zAO U
theorem zK.warm {g : zG} {s U : State} (hW : s.WarmedH U.vm) (h : zK g s) : zK g U := ⟨va_K.moved hW.alike h.1, fun w hw => (zNW_ok w hw).warm hW (h.2.1 w hw), h.2.2.1.moved hW.alike, h.2.2.2.moved hW.alike⟩
theorem zK.call {g : zG} {U : State} {f : JFrame} {mk : MethodId} {a : Array Value} (h : zK g U) : zK g (U.calling f mk a) :=
  ⟨va_K.moved (u := U) (U := U.calling f mk a) (Vm.Alike.refl U.vm) h.1, fun w hw => (zNW_ok w hw).same (u := U) rfl (h.2.1 w hw), h.2.2.1.moved (u := U) (U := U.calling f mk a) (Vm.Alike.refl U.vm), h.2.2.2.moved (u := U) (U := U.calling f mk a) (Vm.Alike.refl U.vm)⟩
def zW (g : zG) (l : Launch) (R : Room) (E : zEnv) (Q : State → Prop) (nL cells slots : Nat) (ws : va_W) (lv : List (Nat × Value)) (st : List Value) (pc : Nat) : Prop :=
  ∀ (H : Heap) (locs : List Loc) (ls : Array Slot), va_P g.1 vwCl ws H → va_D (zA E) ws → va_S (zA E) (zs E).heap H locs → lv_has ls nL lv →
    W (zp E) l (ze E) R (zs E) (zm E) (za E) (zbl E) (zmt E) (zcd E) H locs cells slots Q (F0 (zm E) pc ls st)
/-- what a body stands on -/
def zC (g : zG) (E : zEnv) (cc : ByteArray) (own : String) (Ts : List Cond) (nL : Nat) (ret : Option FieldType) : Prop :=
  (zp E).tables.exec = Jvm.exec ∧ (zcd E).code = cc ∧ (zcd E).maxLocals = nL ∧ (zs E).vm.findClass own = some (zm E).cls ∧ (∀ w ∈ Ts, w.before (za E) (zs E) = true) ∧ zK g (zs E) ∧ (∀ q, (zs E).heap.size ≤ q → zA E q) ∧ (zmt E).locks = false ∧ (zmt E).sig.returnType = ret
section ZR
variable {g : zG} {l : Launch} {R : Room} {E : zEnv} {Q : State → Prop} {nL cells slots : Nat} {ws : va_W} {lv lv' : List (Nat × Value)} {st : List Value} {pc : Nat} {cc : ByteArray} {own : String} {Ts : List Cond} {ret : Option FieldType}
theorem zC.x (C : zC g E cc own Ts nL ret) : (zp E).tables.exec = Jvm.exec := C.1
theorem zC.b (C : zC g E cc own Ts nL ret) : (zcd E).code = cc := C.2.1
theorem zC.ow (C : zC g E cc own Ts nL ret) : (zs E).vm.findClass own = some (zm E).cls := C.2.2.2.1
theorem zC.ts (C : zC g E cc own Ts nL ret) : ∀ w ∈ Ts, w.before (za E) (zs E) = true := C.2.2.2.2.1
theorem zC.K (C : zC g E cc own Ts nL ret) : zK g (zs E) := C.2.2.2.2.2.1
theorem zC.A (C : zC g E cc own Ts nL ret) : ∀ q, (zs E).heap.size ≤ q → zA E q := C.2.2.2.2.2.2.1
theorem zC.lk (C : zC g E cc own Ts nL ret) : (zmt E).locks = false := C.2.2.2.2.2.2.2.1
theorem zC.r (C : zC g E cc own Ts nL ret) : (zmt E).sig.returnType = ret := C.2.2.2.2.2.2.2.2
theorem zC.w (C : zC g E cc own Ts nL ret) (i : Nat) {w : Cond} (h : Ts[i]? = some w) : w.before (za E) (zs E) = true := C.ts w (List.mem_of_getElem? h)
theorem zC.fx (C : zC g E cc own Ts nL ret) : CallFix (zp E) (zm E) (zcd E) cc nL (zs E) (za E) Ts own := ⟨C.1, C.2.1, C.2.2.1, C.2.2.2.1, C.2.2.2.2.1⟩
theorem zW.eqw {ws2 : va_W} (h : ws = ws2) (k : zW g l R E Q nL cells slots ws2 lv st pc) : zW g l R E Q nL cells slots ws lv st pc := h ▸ k
theorem zW.eqst {st2 : List Value} (h : st = st2) (k : zW g l R E Q nL cells slots ws lv st2 pc) : zW g l R E Q nL cells slots ws lv st pc := h ▸ k
theorem zW.top {x y : Int32} (h : x = y) (k : zW g l R E Q nL cells slots ws lv (.int y :: st) pc) : zW g l R E Q nL cells slots ws lv (.int x :: st) pc := h ▸ k
theorem zW.topl {x y : Int64} (h : x = y) (k : zW g l R E Q nL cells slots ws lv (.long y :: st) pc) : zW g l R E Q nL cells slots ws lv (.long x :: st) pc := h ▸ k
theorem zW.pick (is : List Nat) (h : lv_pick lv is = lv') (k : zW g l R E Q nL cells slots ws lv' st pc) : zW g l R E Q nL cells slots ws lv st pc :=
  fun H locs ls hP hD hS hl => k H locs ls hP hD hS (lv_sub hl is h)
theorem zW.wid {k n : Nat} (h1 : cells ≤ k) (h2 : slots ≤ n) (kk : zW g l R E Q nL k n ws lv st pc) : zW g l R E Q nL cells slots ws lv st pc :=
  fun H locs ls hP hD hS hl => W.widen h1 h2 (kk H locs ls hP hD hS hl)
-- constants, loads, stores
theorem z_iconst (C : zC g E cc own Ts nL ret) {n : Int} (v : Int32) (d : decode cc pc = .ok (.iconst n, 1)) (hv : Int32.ofInt n = v) (k : zW g l R E Q nL cells slots ws lv (.int v :: st) (pc + 1)) : zW g l R E Q nL cells slots ws lv st pc :=
  fun H locs ls hP hD hS hl => lv_iconst C.x C.b d hv (k H locs ls hP hD hS hl)
theorem z_bipush (C : zC g E cc own Ts nL ret) {n : Int} (v : Int32) (d : decode cc pc = .ok (.bipush n, 2)) (hv : (Int8.ofInt n).toInt32 = v) (k : zW g l R E Q nL cells slots ws lv (.int v :: st) (pc + 2)) : zW g l R E Q nL cells slots ws lv st pc :=
  fun H locs ls hP hD hS hl => lv_bipush C.x C.b d hv (k H locs ls hP hD hS hl)
theorem z_sipush (C : zC g E cc own Ts nL ret) {n : Int} (v : Int32) (d : decode cc pc = .ok (.sipush n, 3)) (hv : (Int16.ofInt n).toInt32 = v) (k : zW g l R E Q nL cells slots ws lv (.int v :: st) (pc + 3)) : zW g l R E Q nL cells slots ws lv st pc :=
  fun H locs ls hP hD hS hl => lv_sipush C.x C.b d hv (k H locs ls hP hD hS hl)
theorem z_lconst (C : zC g E cc own Ts nL ret) {n : Fin 2} (v : Int64) (d : decode cc pc = .ok (.lconst n, 1)) (hv : Int64.ofNat (n : Nat) = v) (k : zW g l R E Q nL cells slots ws lv (.long v :: st) (pc + 1)) : zW g l R E Q nL cells slots ws lv st pc :=
  fun H locs ls hP hD hS hl => lv_lconst C.x C.b d hv (k H locs ls hP hD hS hl)
theorem z_ldc (C : zC g E cc own Ts nL ret) {index : Nat} (v : Int32) (hc : (Jvm.Cond.constant own index v).before (za E) (zs E) = true) (d : decode cc pc = .ok (.ldc index, 2)) (k : zW g l R E Q nL cells slots ws lv (.int v :: st) (pc + 2)) : zW g l R E Q nL cells slots ws lv st pc :=
  fun H locs ls hP hD hS hl => lv_ldc C.x C.b C.ow hc d (k H locs ls hP hD hS hl)
theorem z_ldcw (C : zC g E cc own Ts nL ret) {index : Nat} (v : Int32) (hc : (Jvm.Cond.constant own index v).before (za E) (zs E) = true) (d : decode cc pc = .ok (.ldc_w index, 3)) (k : zW g l R E Q nL cells slots ws lv (.int v :: st) (pc + 3)) : zW g l R E Q nL cells slots ws lv st pc :=
  fun H locs ls hP hD hS hl => lv_ldcw C.x C.b C.ow hc d (k H locs ls hP hD hS hl)
theorem z_ldc2 (C : zC g E cc own Ts nL ret) {index : Nat} (v : Int64) (hc : (Jvm.Cond.constantLong own index v).before (za E) (zs E) = true) (d : decode cc pc = .ok (.ldc2_w index, 3)) (k : zW g l R E Q nL cells slots ws lv (.long v :: st) (pc + 3)) : zW g l R E Q nL cells slots ws lv st pc :=
  fun H locs ls hP hD hS hl => lv_ldc2 C.x C.b C.ow hc d (k H locs ls hP hD hS hl)
theorem z_iload_n (C : zC g E cc own Ts nL ret) {n : Fin 4} (d : decode cc pc = .ok (.iload_n n, 1)) (j : Nat) {x : Int32} (h : lv[j]? = some ((n : Nat), .int x)) (k : zW g l R E Q nL cells slots ws lv (.int x :: st) (pc + 1)) : zW g l R E Q nL cells slots ws lv st pc :=
  fun H locs ls hP hD hS hl => lv_iload_n C.x C.b d rfl (lv_at hl j h) (k H locs ls hP hD hS hl)
theorem z_iload (C : zC g E cc own Ts nL ret) {n : Nat} (d : decode cc pc = .ok (.iload n, 2)) (j : Nat) {x : Int32} (h : lv[j]? = some (n, .int x)) (k : zW g l R E Q nL cells slots ws lv (.int x :: st) (pc + 2)) : zW g l R E Q nL cells slots ws lv st pc :=
  fun H locs ls hP hD hS hl => lv_iload C.x C.b d (lv_at hl j h) (k H locs ls hP hD hS hl)
theorem z_lload_n (C : zC g E cc own Ts nL ret) {n : Fin 4} (d : decode cc pc = .ok (.lload_n n, 1)) (j : Nat) {x : Int64} (h : lv[j]? = some ((n : Nat), .long x)) (k : zW g l R E Q nL cells slots ws lv (.long x :: st) (pc + 1)) : zW g l R E Q nL cells slots ws lv st pc :=
  fun H locs ls hP hD hS hl => lv_lload_n C.x C.b d rfl (lv_at hl j h) (k H locs ls hP hD hS hl)
theorem z_lload (C : zC g E cc own Ts nL ret) {n : Nat} (d : decode cc pc = .ok (.lload n, 2)) (j : Nat) {x : Int64} (h : lv[j]? = some (n, .long x)) (k : zW g l R E Q nL cells slots ws lv (.long x :: st) (pc + 2)) : zW g l R E Q nL cells slots ws lv st pc :=
  fun H locs ls hP hD hS hl => lv_lload C.x C.b d (lv_at hl j h) (k H locs ls hP hD hS hl)
theorem z_dload (C : zC g E cc own Ts nL ret) {n : Nat} (d : decode cc pc = .ok (.dload n, 2)) (j : Nat) {x : UInt64} (h : lv[j]? = some (n, .double x)) (k : zW g l R E Q nL cells slots ws lv (.double x :: st) (pc + 2)) : zW g l R E Q nL cells slots ws lv st pc :=
  fun H locs ls hP hD hS hl => lv_dload C.x C.b d (lv_at hl j h) (k H locs ls hP hD hS hl)
theorem z_aload_n (C : zC g E cc own Ts nL ret) {n : Fin 4} (d : decode cc pc = .ok (.aload_n n, 1)) (j : Nat) {x : Nat} (h : lv[j]? = some ((n : Nat), .ref x)) (k : zW g l R E Q nL cells slots ws lv (.ref x :: st) (pc + 1)) : zW g l R E Q nL cells slots ws lv st pc :=
  fun H locs ls hP hD hS hl => lv_aload_n C.x C.b d rfl (lv_at hl j h) (k H locs ls hP hD hS hl)
theorem z_aload (C : zC g E cc own Ts nL ret) {n : Nat} (d : decode cc pc = .ok (.aload n, 2)) (j : Nat) {x : Nat} (h : lv[j]? = some (n, .ref x)) (k : zW g l R E Q nL cells slots ws lv (.ref x :: st) (pc + 2)) : zW g l R E Q nL cells slots ws lv st pc :=
  fun H locs ls hP hD hS hl => lv_aload C.x C.b d (lv_at hl j h) (k H locs ls hP hD hS hl)
def zst1 (i : Nat) (v : Value) (lv : List (Nat × Value)) : List (Nat × Value) := (i, v) :: lv.filter (fun q => !(q.1 == i) && !(q.1 + 1 == i && q.2.category == 2))
def zst2 (i : Nat) (v : Value) (lv : List (Nat × Value)) : List (Nat × Value) := (i, v) :: lv.filter (fun q => !(q.1 == i) && (!(q.1 == i + 1) && !(q.1 + 1 == i && q.2.category == 2)))
theorem z_istore_n (C : zC g E cc own Ts nL ret) {n : Fin 4} (d : decode cc pc = .ok (.istore_n n, 1)) {x : Int32} (hn : (n : Nat) < nL) (lv' : List (Nat × Value)) (hl9 : zst1 n (.int x) lv = lv') (k : zW g l R E Q nL cells slots ws lv' st (pc + 1)) : zW g l R E Q nL cells slots ws lv (.int x :: st) pc :=
  fun H locs ls hP hD hS hl => lv_istore_n C.x C.b d rfl hl hn hl9 (fun ls' hl' => k H locs ls' hP hD hS hl')
theorem z_istore (C : zC g E cc own Ts nL ret) {n : Nat} (d : decode cc pc = .ok (.istore n, 2)) {x : Int32} (hn : n < nL) (lv' : List (Nat × Value)) (hl9 : zst1 n (.int x) lv = lv') (k : zW g l R E Q nL cells slots ws lv' st (pc + 2)) : zW g l R E Q nL cells slots ws lv (.int x :: st) pc :=
  fun H locs ls hP hD hS hl => lv_istore C.x C.b d hl hn hl9 (fun ls' hl' => k H locs ls' hP hD hS hl')
theorem z_lstore_n (C : zC g E cc own Ts nL ret) {n : Fin 4} (d : decode cc pc = .ok (.lstore_n n, 1)) {x : Int64} (hn : (n : Nat) + 1 < nL) (lv' : List (Nat × Value)) (hl9 : zst2 n (.long x) lv = lv') (k : zW g l R E Q nL cells slots ws lv' st (pc + 1)) : zW g l R E Q nL cells slots ws lv (.long x :: st) pc :=
  fun H locs ls hP hD hS hl => lv_lstore_n C.x C.b d rfl hl hn hl9 (fun ls' hl' => k H locs ls' hP hD hS hl')
theorem z_lstore (C : zC g E cc own Ts nL ret) {n : Nat} (d : decode cc pc = .ok (.lstore n, 2)) {x : Int64} (hn : n + 1 < nL) (lv' : List (Nat × Value)) (hl9 : zst2 n (.long x) lv = lv') (k : zW g l R E Q nL cells slots ws lv' st (pc + 2)) : zW g l R E Q nL cells slots ws lv (.long x :: st) pc :=
  fun H locs ls hP hD hS hl => lv_lstore C.x C.b d hl hn hl9 (fun ls' hl' => k H locs ls' hP hD hS hl')
theorem z_dstore (C : zC g E cc own Ts nL ret) {n : Nat} (d : decode cc pc = .ok (.dstore n, 2)) {x : UInt64} (hn : n + 1 < nL) (lv' : List (Nat × Value)) (hl9 : zst2 n (.double x) lv = lv') (k : zW g l R E Q nL cells slots ws lv' st (pc + 2)) : zW g l R E Q nL cells slots ws lv (.double x :: st) pc :=
  fun H locs ls hP hD hS hl => lv_dstore C.x C.b d hl hn hl9 (fun ls' hl' => k H locs ls' hP hD hS hl')
theorem z_astore_n (C : zC g E cc own Ts nL ret) {n : Fin 4} (d : decode cc pc = .ok (.astore_n n, 1)) {x : Nat} (hn : (n : Nat) < nL) (lv' : List (Nat × Value)) (hl9 : zst1 n (.ref x) lv = lv') (k : zW g l R E Q nL cells slots ws lv' st (pc + 1)) : zW g l R E Q nL cells slots ws lv (.ref x :: st) pc :=
  fun H locs ls hP hD hS hl => lv_astore_n C.x C.b d rfl hl hn hl9 (fun ls' hl' => k H locs ls' hP hD hS hl')
theorem z_astore (C : zC g E cc own Ts nL ret) {n : Nat} (d : decode cc pc = .ok (.astore n, 2)) {x : Nat} (hn : n < nL) (lv' : List (Nat × Value)) (hl9 : zst1 n (.ref x) lv = lv') (k : zW g l R E Q nL cells slots ws lv' st (pc + 2)) : zW g l R E Q nL cells slots ws lv (.ref x :: st) pc :=
  fun H locs ls hP hD hS hl => lv_astore C.x C.b d hl hn hl9 (fun ls' hl' => k H locs ls' hP hD hS hl')
theorem z_iinc (C : zC g E cc own Ts nL ret) {i : Nat} {n : Int} (d : decode cc pc = .ok (.iinc i n, 3)) (j : Nat) {x : Int32} (v : Int32) (h : lv[j]? = some (i, .int x)) (hv : x + Int32.ofInt n = v) (hn : i < nL) (lv' : List (Nat × Value)) (hl9 : zst1 i (.int v) lv = lv') (k : zW g l R E Q nL cells slots ws lv' st (pc + 3)) : zW g l R E Q nL cells slots ws lv st pc :=
  fun H locs ls hP hD hS hl => lv_iinc C.x C.b d hl h hv hn hl9 (fun ls' hl' => k H locs ls' hP hD hS hl')
theorem z_dup (C : zC g E cc own Ts nL ret) {v : Value} (d : decode cc pc = .ok (.dup, 1)) (hv : v.category = 1) (k : zW g l R E Q nL cells slots ws lv (v :: v :: st) (pc + 1)) : zW g l R E Q nL cells slots ws lv (v :: st) pc :=
  fun H locs ls hP hD hS hl => lv_dup C.x C.b d hv (k H locs ls hP hD hS hl)
theorem z_pop (C : zC g E cc own Ts nL ret) {v : Value} (d : decode cc pc = .ok (.pop, 1)) (hv : v.category = 1) (k : zW g l R E Q nL cells slots ws lv st (pc + 1)) : zW g l R E Q nL cells slots ws lv (v :: st) pc :=
  fun H locs ls hP hD hS hl => lv_pop C.x C.b d hv (k H locs ls hP hD hS hl)
theorem z_goto (C : zC g E cc own Ts nL ret) {off : Int} (tgt : Nat) (d : decode cc pc = .ok (.goto off, 3)) (ht : (pc : Int) + off = (tgt : Int)) (k : zW g l R E Q nL cells slots ws lv st tgt) : zW g l R E Q nL cells slots ws lv st pc :=
  fun H locs ls hP hD hS hl => lv_goto C.x C.b d ht (k H locs ls hP hD hS hl)
-- arithmetic: the answer as it is wanted
theorem z_iadd (C : zC g E cc own Ts nL ret) {x y : Int32} (d : decode cc pc = .ok (.iadd, 1)) {v : Int32} (hv : x + y = v) (k : zW g l R E Q nL cells slots ws lv (.int v :: st) (pc + 1)) : zW g l R E Q nL cells slots ws lv (.int y :: .int x :: st) pc := by
  subst hv; exact fun H locs ls hP hD hS hl => lv_iadd C.x C.b d (k H locs ls hP hD hS hl)
theorem z_isub (C : zC g E cc own Ts nL ret) {x y : Int32} (d : decode cc pc = .ok (.isub, 1)) {v : Int32} (hv : x - y = v) (k : zW g l R E Q nL cells slots ws lv (.int v :: st) (pc + 1)) : zW g l R E Q nL cells slots ws lv (.int y :: .int x :: st) pc := by
  subst hv; exact fun H locs ls hP hD hS hl => lv_isub C.x C.b d (k H locs ls hP hD hS hl)
theorem z_imul (C : zC g E cc own Ts nL ret) {x y : Int32} (d : decode cc pc = .ok (.imul, 1)) {v : Int32} (hv : x * y = v) (k : zW g l R E Q nL cells slots ws lv (.int v :: st) (pc + 1)) : zW g l R E Q nL cells slots ws lv (.int y :: .int x :: st) pc := by
  subst hv; exact fun H locs ls hP hD hS hl => lv_imul C.x C.b d (k H locs ls hP hD hS hl)
theorem z_iand (C : zC g E cc own Ts nL ret) {x y : Int32} (d : decode cc pc = .ok (.iand, 1)) {v : Int32} (hv : x &&& y = v) (k : zW g l R E Q nL cells slots ws lv (.int v :: st) (pc + 1)) : zW g l R E Q nL cells slots ws lv (.int y :: .int x :: st) pc := by
  subst hv; exact fun H locs ls hP hD hS hl => lv_iand C.x C.b d (k H locs ls hP hD hS hl)
theorem z_ior (C : zC g E cc own Ts nL ret) {x y : Int32} (d : decode cc pc = .ok (.ior, 1)) {v : Int32} (hv : x ||| y = v) (k : zW g l R E Q nL cells slots ws lv (.int v :: st) (pc + 1)) : zW g l R E Q nL cells slots ws lv (.int y :: .int x :: st) pc := by
  subst hv; exact fun H locs ls hP hD hS hl => lv_ior C.x C.b d (k H locs ls hP hD hS hl)
theorem z_ixor (C : zC g E cc own Ts nL ret) {x y : Int32} (d : decode cc pc = .ok (.ixor, 1)) {v : Int32} (hv : x ^^^ y = v) (k : zW g l R E Q nL cells slots ws lv (.int v :: st) (pc + 1)) : zW g l R E Q nL cells slots ws lv (.int y :: .int x :: st) pc := by
  subst hv; exact fun H locs ls hP hD hS hl => lv_ixor C.x C.b d (k H locs ls hP hD hS hl)
end ZR
section ZR2
variable {g : zG} {l : Launch} {R : Room} {E : zEnv} {Q : State → Prop} {nL cells slots : Nat} {ws ws' : va_W} {lv lv' : List (Nat × Value)} {st : List Value} {pc : Nat} {cc : ByteArray} {own : String} {Ts : List Cond} {ret : Option FieldType}
theorem z_ishl (C : zC g E cc own Ts nL ret) {x y : Int32} (d : decode cc pc = .ok (.ishl, 1)) {v : Int32} (hv : x <<< (y &&& 31) = v) (k : zW g l R E Q nL cells slots ws lv (.int v :: st) (pc + 1)) : zW g l R E Q nL cells slots ws lv (.int y :: .int x :: st) pc := by
  subst hv; exact fun H locs ls hP hD hS hl => lv_ishl C.x C.b d (k H locs ls hP hD hS hl)
theorem z_ishr (C : zC g E cc own Ts nL ret) {x y : Int32} (d : decode cc pc = .ok (.ishr, 1)) {v : Int32} (hv : x >>> (y &&& 31) = v) (k : zW g l R E Q nL cells slots ws lv (.int v :: st) (pc + 1)) : zW g l R E Q nL cells slots ws lv (.int y :: .int x :: st) pc := by
  subst hv; exact fun H locs ls hP hD hS hl => lv_ishr C.x C.b d (k H locs ls hP hD hS hl)
theorem z_iushr (C : zC g E cc own Ts nL ret) {x y : Int32} (d : decode cc pc = .ok (.iushr, 1)) {v : Int32} (hv : (x.toUInt32 >>> (y.toUInt32 &&& Int32.toUInt32 31)).toInt32 = v) (k : zW g l R E Q nL cells slots ws lv (.int v :: st) (pc + 1)) : zW g l R E Q nL cells slots ws lv (.int y :: .int x :: st) pc :=
  fun H locs ls hP hD hS hl => lv_iushr C.x C.b d hv (k H locs ls hP hD hS hl)
theorem z_idiv (C : zC g E cc own Ts nL ret) {x y : Int32} (d : decode cc pc = .ok (.idiv, 1)) (hne : ¬ y = 0) {v : Int32} (hv : x / y = v) (k : zW g l R E Q nL cells slots ws lv (.int v :: st) (pc + 1)) : zW g l R E Q nL cells slots ws lv (.int y :: .int x :: st) pc := by
  subst hv; exact fun H locs ls hP hD hS hl => lv_idiv C.x C.b d hne (k H locs ls hP hD hS hl)
theorem z_i2l (C : zC g E cc own Ts nL ret) {x : Int32} {v : Int64} (d : decode cc pc = .ok (.i2l, 1)) (hv : x.toInt64 = v) (k : zW g l R E Q nL cells slots ws lv (.long v :: st) (pc + 1)) : zW g l R E Q nL cells slots ws lv (.int x :: st) pc :=
  fun H locs ls hP hD hS hl => lv_i2l C.x C.b d hv (k H locs ls hP hD hS hl)
theorem z_ladd (C : zC g E cc own Ts nL ret) {x y : Int64} (d : decode cc pc = .ok (.ladd, 1)) {v : Int64} (hv : x + y = v) (k : zW g l R E Q nL cells slots ws lv (.long v :: st) (pc + 1)) : zW g l R E Q nL cells slots ws lv (.long y :: .long x :: st) pc := by
  subst hv; exact fun H locs ls hP hD hS hl => lv_ladd C.x C.b d (k H locs ls hP hD hS hl)
theorem z_lmul (C : zC g E cc own Ts nL ret) {x y : Int64} (d : decode cc pc = .ok (.lmul, 1)) {v : Int64} (hv : x * y = v) (k : zW g l R E Q nL cells slots ws lv (.long v :: st) (pc + 1)) : zW g l R E Q nL cells slots ws lv (.long y :: .long x :: st) pc := by
  subst hv; exact fun H locs ls hP hD hS hl => lv_lmul C.x C.b d (k H locs ls hP hD hS hl)
theorem z_lcmp (C : zC g E cc own Ts nL ret) {x y : Int64} (d : decode cc pc = .ok (.lcmp, 1)) {v : Int32} (hv : lg_cmp x y = v) (k : zW g l R E Q nL cells slots ws lv (.int v :: st) (pc + 1)) : zW g l R E Q nL cells slots ws lv (.long y :: .long x :: st) pc := by
  subst hv; exact fun H locs ls hP hD hS hl => W.lcmp C.x C.b d (k H locs ls hP hD hS hl)
theorem z_i2d (C : zC g E cc own Ts nL ret) {x : Int32} (d : decode cc pc = .ok (.i2d, 1)) (k : zW g l R E Q nL cells slots ws lv (.double (FP.i2d x) :: st) (pc + 1)) : zW g l R E Q nL cells slots ws lv (.int x :: st) pc :=
  fun H locs ls hP hD hS hl => lv_i2d C.x C.b d (k H locs ls hP hD hS hl)
theorem z_ddiv (C : zC g E cc own Ts nL ret) {x y : UInt64} (d : decode cc pc = .ok (.ddiv, 1)) (hne : vf_n64 (FP.ddiv x y)) (k : zW g l R E Q nL cells slots ws lv (.double (FP.ddiv x y) :: st) (pc + 1)) : zW g l R E Q nL cells slots ws lv (.double y :: .double x :: st) pc :=
  fun H locs ls hP hD hS hl => lv_ddiv C.x C.b d hne (k H locs ls hP hD hS hl)
theorem z_dconst0 (C : zC g E cc own Ts nL ret) (d : decode cc pc = .ok (.dconst 0, 1)) (k : zW g l R E Q nL cells slots ws lv (.double 0 :: st) (pc + 1)) : zW g l R E Q nL cells slots ws lv st pc :=
  fun H locs ls hP hD hS hl => lv_dconst0 C.x C.b d (k H locs ls hP hD hS hl)
theorem z_dcmp (C : zC g E cc own Ts nL ret) {x y : UInt64} {op : CmpOp} (d : decode cc pc = .ok (.dcmp op, 1)) {v : Int32} (hv : Op.cmpValue (FP.dcmp x y) op = v) (k : zW g l R E Q nL cells slots ws lv (.int v :: st) (pc + 1)) : zW g l R E Q nL cells slots ws lv (.double y :: .double x :: st) pc := by
  subst hv; exact fun H locs ls hP hD hS hl => lv_dcmp C.x C.b d (k H locs ls hP hD hS hl)
-- branches, by a proposition that stands for the comparison
theorem z_if_eq (C : zC g E cc own Ts nL ret) {x : Int32} {off : Int} (tgt : Nat) (d : decode cc pc = .ok (.ifCond .eq off, 3)) (ht : (pc : Int) + off = (tgt : Int)) {P : Prop} (hP : x = 0 ↔ P) (kt : P → zW g l R E Q nL cells slots ws lv st tgt) (kf : ¬ P → zW g l R E Q nL cells slots ws lv st (pc + 3)) : zW g l R E Q nL cells slots ws lv (.int x :: st) pc :=
  fun H locs ls hP9 hD hS hl => lv_if_eq C.x C.b d ht (fun h => kt (hP.mp h) H locs ls hP9 hD hS hl) (fun h => kf (fun q => h (hP.mpr q)) H locs ls hP9 hD hS hl)
theorem z_if_ne (C : zC g E cc own Ts nL ret) {x : Int32} {off : Int} (tgt : Nat) (d : decode cc pc = .ok (.ifCond .ne off, 3)) (ht : (pc : Int) + off = (tgt : Int)) {P : Prop} (hP : x = 0 ↔ P) (kt : ¬ P → zW g l R E Q nL cells slots ws lv st tgt) (kf : P → zW g l R E Q nL cells slots ws lv st (pc + 3)) : zW g l R E Q nL cells slots ws lv (.int x :: st) pc :=
  fun H locs ls hP9 hD hS hl => lv_if_ne C.x C.b d ht (fun h => kt (fun q => h (hP.mpr q)) H locs ls hP9 hD hS hl) (fun h => kf (hP.mp h) H locs ls hP9 hD hS hl)
theorem z_if_lt (C : zC g E cc own Ts nL ret) {x : Int32} {off : Int} (tgt : Nat) (d : decode cc pc = .ok (.ifCond .lt off, 3)) (ht : (pc : Int) + off = (tgt : Int)) {P : Prop} (hP : x < 0 ↔ P) (kt : P → zW g l R E Q nL cells slots ws lv st tgt) (kf : ¬ P → zW g l R E Q nL cells slots ws lv st (pc + 3)) : zW g l R E Q nL cells slots ws lv (.int x :: st) pc :=
  fun H locs ls hP9 hD hS hl => lv_if_lt C.x C.b d ht (fun h => kt (hP.mp h) H locs ls hP9 hD hS hl) (fun h => kf (fun q => h (hP.mpr q)) H locs ls hP9 hD hS hl)
theorem z_if_ge (C : zC g E cc own Ts nL ret) {x : Int32} {off : Int} (tgt : Nat) (d : decode cc pc = .ok (.ifCond .ge off, 3)) (ht : (pc : Int) + off = (tgt : Int)) {P : Prop} (hP : 0 ≤ x ↔ P) (kt : P → zW g l R E Q nL cells slots ws lv st tgt) (kf : ¬ P → zW g l R E Q nL cells slots ws lv st (pc + 3)) : zW g l R E Q nL cells slots ws lv (.int x :: st) pc :=
  fun H locs ls hP9 hD hS hl => lv_if_ge C.x C.b d ht (fun h => kt (hP.mp h) H locs ls hP9 hD hS hl) (fun h => kf (fun q => h (hP.mpr q)) H locs ls hP9 hD hS hl)
theorem z_if_gt (C : zC g E cc own Ts nL ret) {x : Int32} {off : Int} (tgt : Nat) (d : decode cc pc = .ok (.ifCond .gt off, 3)) (ht : (pc : Int) + off = (tgt : Int)) {P : Prop} (hP : 0 < x ↔ P) (kt : P → zW g l R E Q nL cells slots ws lv st tgt) (kf : ¬ P → zW g l R E Q nL cells slots ws lv st (pc + 3)) : zW g l R E Q nL cells slots ws lv (.int x :: st) pc :=
  fun H locs ls hP9 hD hS hl => lv_if_gt C.x C.b d ht (fun h => kt (hP.mp h) H locs ls hP9 hD hS hl) (fun h => kf (fun q => h (hP.mpr q)) H locs ls hP9 hD hS hl)
theorem z_if_le (C : zC g E cc own Ts nL ret) {x : Int32} {off : Int} (tgt : Nat) (d : decode cc pc = .ok (.ifCond .le off, 3)) (ht : (pc : Int) + off = (tgt : Int)) {P : Prop} (hP : x ≤ 0 ↔ P) (kt : P → zW g l R E Q nL cells slots ws lv st tgt) (kf : ¬ P → zW g l R E Q nL cells slots ws lv st (pc + 3)) : zW g l R E Q nL cells slots ws lv (.int x :: st) pc :=
  fun H locs ls hP9 hD hS hl => lv_if_le C.x C.b d ht (fun h => kt (hP.mp h) H locs ls hP9 hD hS hl) (fun h => kf (fun q => h (hP.mpr q)) H locs ls hP9 hD hS hl)
theorem z_icmp_eq (C : zC g E cc own Ts nL ret) {x y : Int32} {off : Int} (tgt : Nat) (d : decode cc pc = .ok (.if_icmp .eq off, 3)) (ht : (pc : Int) + off = (tgt : Int)) {P : Prop} (hP : x = y ↔ P) (kt : P → zW g l R E Q nL cells slots ws lv st tgt) (kf : ¬ P → zW g l R E Q nL cells slots ws lv st (pc + 3)) : zW g l R E Q nL cells slots ws lv (.int y :: .int x :: st) pc :=
  fun H locs ls hP9 hD hS hl => lv_icmp_eq C.x C.b d ht (fun h => kt (hP.mp h) H locs ls hP9 hD hS hl) (fun h => kf (fun q => h (hP.mpr q)) H locs ls hP9 hD hS hl)
theorem z_icmp_ne (C : zC g E cc own Ts nL ret) {x y : Int32} {off : Int} (tgt : Nat) (d : decode cc pc = .ok (.if_icmp .ne off, 3)) (ht : (pc : Int) + off = (tgt : Int)) {P : Prop} (hP : x = y ↔ P) (kt : ¬ P → zW g l R E Q nL cells slots ws lv st tgt) (kf : P → zW g l R E Q nL cells slots ws lv st (pc + 3)) : zW g l R E Q nL cells slots ws lv (.int y :: .int x :: st) pc :=
  fun H locs ls hP9 hD hS hl => lv_icmp_ne C.x C.b d ht (fun h => kt (fun q => h (hP.mpr q)) H locs ls hP9 hD hS hl) (fun h => kf (hP.mp h) H locs ls hP9 hD hS hl)
theorem z_icmp_lt (C : zC g E cc own Ts nL ret) {x y : Int32} {off : Int} (tgt : Nat) (d : decode cc pc = .ok (.if_icmp .lt off, 3)) (ht : (pc : Int) + off = (tgt : Int)) {P : Prop} (hP : x < y ↔ P) (kt : P → zW g l R E Q nL cells slots ws lv st tgt) (kf : ¬ P → zW g l R E Q nL cells slots ws lv st (pc + 3)) : zW g l R E Q nL cells slots ws lv (.int y :: .int x :: st) pc :=
  fun H locs ls hP9 hD hS hl => lv_icmp_lt C.x C.b d ht (fun h => kt (hP.mp h) H locs ls hP9 hD hS hl) (fun h => kf (fun q => h (hP.mpr q)) H locs ls hP9 hD hS hl)
theorem z_icmp_ge (C : zC g E cc own Ts nL ret) {x y : Int32} {off : Int} (tgt : Nat) (d : decode cc pc = .ok (.if_icmp .ge off, 3)) (ht : (pc : Int) + off = (tgt : Int)) {P : Prop} (hP : y ≤ x ↔ P) (kt : P → zW g l R E Q nL cells slots ws lv st tgt) (kf : ¬ P → zW g l R E Q nL cells slots ws lv st (pc + 3)) : zW g l R E Q nL cells slots ws lv (.int y :: .int x :: st) pc :=
  fun H locs ls hP9 hD hS hl => lv_icmp_ge C.x C.b d ht (fun h => kt (hP.mp h) H locs ls hP9 hD hS hl) (fun h => kf (fun q => h (hP.mpr q)) H locs ls hP9 hD hS hl)
theorem z_icmp_gt (C : zC g E cc own Ts nL ret) {x y : Int32} {off : Int} (tgt : Nat) (d : decode cc pc = .ok (.if_icmp .gt off, 3)) (ht : (pc : Int) + off = (tgt : Int)) {P : Prop} (hP : y < x ↔ P) (kt : P → zW g l R E Q nL cells slots ws lv st tgt) (kf : ¬ P → zW g l R E Q nL cells slots ws lv st (pc + 3)) : zW g l R E Q nL cells slots ws lv (.int y :: .int x :: st) pc :=
  fun H locs ls hP9 hD hS hl => lv_icmp_gt C.x C.b d ht (fun h => kt (hP.mp h) H locs ls hP9 hD hS hl) (fun h => kf (fun q => h (hP.mpr q)) H locs ls hP9 hD hS hl)
theorem z_icmp_le (C : zC g E cc own Ts nL ret) {x y : Int32} {off : Int} (tgt : Nat) (d : decode cc pc = .ok (.if_icmp .le off, 3)) (ht : (pc : Int) + off = (tgt : Int)) {P : Prop} (hP : x ≤ y ↔ P) (kt : P → zW g l R E Q nL cells slots ws lv st tgt) (kf : ¬ P → zW g l R E Q nL cells slots ws lv st (pc + 3)) : zW g l R E Q nL cells slots ws lv (.int y :: .int x :: st) pc :=
  fun H locs ls hP9 hD hS hl => lv_icmp_le C.x C.b d ht (fun h => kt (hP.mp h) H locs ls hP9 hD hS hl) (fun h => kf (fun q => h (hP.mpr q)) H locs ls hP9 hD hS hl)
theorem z_tabIn (C : zC g E cc own Ts nL ret) {dflt lo hi : Int} {offs : Array Int} {len : Nat} {x : Int32} {off : Int} (tgt : Nat) (d : decode cc pc = .ok (.tableswitch dflt lo hi offs, len)) (h1 : ¬ x.toInt < lo) (h2 : ¬ hi < x.toInt) (ho : offs[(x.toInt - lo).toNat]? = some off) (ht : (pc : Int) + off = (tgt : Int)) (k : zW g l R E Q nL cells slots ws lv st tgt) : zW g l R E Q nL cells slots ws lv (.int x :: st) pc :=
  fun H locs ls hP9 hD hS hl => lv_tableIn C.x C.b d h1 h2 ho ht (k H locs ls hP9 hD hS hl)
theorem z_tabOut (C : zC g E cc own Ts nL ret) {dflt lo hi : Int} {offs : Array Int} {len : Nat} {x : Int32} (tgt : Nat) (d : decode cc pc = .ok (.tableswitch dflt lo hi offs, len)) (h : x.toInt < lo ∨ hi < x.toInt) (ht : (pc : Int) + dflt = (tgt : Int)) (k : zW g l R E Q nL cells slots ws lv st tgt) : zW g l R E Q nL cells slots ws lv (.int x :: st) pc :=
  fun H locs ls hP9 hD hS hl => lv_tableOut C.x C.b d h ht (k H locs ls hP9 hD hS hl)
theorem z_lookup (C : zC g E cc own Ts nL ret) {dflt : Int} {ps : Array (Int × Int)} {len : Nat} {x : Int32} {off : Int} (tgt : Nat) (d : decode cc pc = .ok (.lookupswitch dflt ps, len)) (hp : (ps.toList.zip (ps.toList.drop 1)).all (fun (a, next) => a.1 < next.1) = true) (ho : Op.lookupswitch.offset ps.toList dflt x.toInt = off) (ht : (pc : Int) + off = (tgt : Int)) (k : zW g l R E Q nL cells slots ws lv st tgt) : zW g l R E Q nL cells slots ws lv (.int x :: st) pc :=
  fun H locs ls hP9 hD hS hl => lv_lookup C.x C.b d hp ho ht (k H locs ls hP9 hD hS hl)
-- fields
theorem z_get (C : zC g E cc own Ts nL ret) {Cn : String} {T : u_T} {N ci index : Nat} {a : Nat} {fs : List Value} {v : Value} (hin : ∀ w ∈ u_ws Cn T N, w ∈ Ts) (q0 : Nat) (he : ws[q0]? = some (a, .inr (ci, fs))) (hc : vwCl[ci]? = some (Cn, T, N)) (k : Nat) (hk : k < N) (hlink : (Cond.fieldLink own index (T k).1 (T k).2.1 (T k).2.2.1).before (za E) (zs E) = true) (hv : fs[k]? = some v) (d : decode cc pc = .ok (.getfield index, 3))
    (kk : zW g l R E Q nL cells slots ws lv (v :: st) (pc + 3)) : zW g l R E Q nL cells slots ws lv (.ref a :: st) pc :=
  fun H locs ls hP hD hS hl => va_get C.x C.b C.ts hin C.ow C.K.1 hP q0 he hc k hk hlink (fun _ h9 => h9) hv d (kk H locs ls hP hD hS hl)
theorem z_getN (C : zC g E cc own Ts nL ret) {Cn host : String} {T : u_T} {N ci index : Nat} {a : Nat} {fs : List Value} {v : Value} (hin : ∀ w ∈ u_ws Cn T N, w ∈ Ts) (q0 : Nat) (he : ws[q0]? = some (a, .inr (ci, fs))) (hc : vwCl[ci]? = some (Cn, T, N)) (k : Nat) (hk : k < N) (j : Nat) (hlink : zNW[j]? = some (Cond.fieldLinkNest own index (T k).1 (T k).2.1 (T k).2.2.1 host)) (hv : fs[k]? = some v) (d : decode cc pc = .ok (.getfield index, 3))
    (kk : zW g l R E Q nL cells slots ws lv (v :: st) (pc + 3)) : zW g l R E Q nL cells slots ws lv (.ref a :: st) pc :=
  fun H locs ls hP hD hS hl => va_getN C.x C.b C.ts hin C.ow C.K.1 hP q0 he hc k hk (va_Nw.use rfl (C.K.2.1 _ (List.mem_of_getElem? hlink))) (fun _ h9 => h9) hv d (kk H locs ls hP hD hS hl)
theorem z_put (C : zC g E cc own Ts nL ret) {Cn : String} {T : u_T} {N ci index : Nat} {a : Nat} {fs : List Value} {v : Value} {ty0 : Nat → FieldType} (hin : ∀ w ∈ u_ws Cn T N, w ∈ Ts) (hty : ∀ k, k < N → parseFieldDescriptor (T k).2.2.1 = some (ty0 k)) (hnm : ∀ a, a < N → ∀ b, b < N → a ≠ b → (T a).2.1 ≠ (T b).2.1) (q0 : Nat) (he : ws[q0]? = some (a, .inr (ci, fs))) (hc : vwCl[ci]? = some (Cn, T, N)) (k : Nat) (hk : k < N) (hlink : (Cond.fieldLink own index (T k).1 (T k).2.1 (T k).2.2.1).before (za E) (zs E) = true) (hfin : (T k).2.2.2 = false) {ty : FieldType} (hd : parseFieldDescriptor (T k).2.2.1 = some ty) (hn : narrow ty v = v) (hfit : fits ty v = true) (hl9 : k < fs.length) (d : decode cc pc = .ok (.putfield index, 3)) {w' : va_W} (hw : ws.set q0 (a, .inr (ci, fs.set k v)) = w')
    (kk : zW g l R E Q nL cells slots w' lv st (pc + 3)) : zW g l R E Q nL cells slots ws lv (v :: .ref a :: st) pc := by
  subst hw
  exact fun H locs ls hP hD hS hl => va_put C.x C.b C.ts hin ty0 hty hnm C.ow C.K.1 hP hD hS q0 he hc k hk hlink (fun _ h9 => h9) hfin hd hn hfit hl9 d (fun H1 locs1 h1 h2 h3 => kk H1 locs1 ls h1 h2 h3 hl)
theorem z_putF (C : zC g E cc own Ts nL ret) {Cn : String} {T : u_T} {N ci index : Nat} {a : Nat} {fs : List Value} {v : Value} {ty0 : Nat → FieldType} (hin : ∀ w ∈ u_ws Cn T N, w ∈ Ts) (hty : ∀ k, k < N → parseFieldDescriptor (T k).2.2.1 = some (ty0 k)) (hnm : ∀ a, a < N → ∀ b, b < N → a ≠ b → (T a).2.1 ≠ (T b).2.1) (q0 : Nat) (he : ws[q0]? = some (a, .inr (ci, fs))) (hc : vwCl[ci]? = some (Cn, T, N)) (k : Nat) (hk : k < N) (hlink : (Cond.fieldLink own index (T k).1 (T k).2.1 (T k).2.2.1).before (za E) (zs E) = true) (hfin : (T k).2.2.2 = true) (hi : (zmt E).name = "<init>") (hdc : (T k).1 = own) {ty : FieldType} (hd : parseFieldDescriptor (T k).2.2.1 = some ty) (hn : narrow ty v = v) (hfit : fits ty v = true) (hl9 : k < fs.length) (d : decode cc pc = .ok (.putfield index, 3)) {w' : va_W} (hw : ws.set q0 (a, .inr (ci, fs.set k v)) = w')
    (kk : zW g l R E Q nL cells slots w' lv st (pc + 3)) : zW g l R E Q nL cells slots ws lv (v :: .ref a :: st) pc := by
  subst hw
  exact fun H locs ls hP hD hS hl => va_putF C.x C.b C.ts hin ty0 hty hnm C.ow C.K.1 hP hD hS q0 he hc k hk hlink (fun _ h9 => h9) hfin hi hdc hd hn hfit hl9 d (fun H1 locs1 h1 h2 h3 => kk H1 locs1 ls h1 h2 h3 hl)
-- arrays
theorem z_iald (C : zC g E cc own Ts nL ret) {a n : Nat} {f : Nat → Int32} (q0 : Nat) (ha : ws[q0]? = some (a, .inl (zI g, n, .inl f))) {i : Int32} (hin : vp_in i n) (d : decode cc pc = .ok (.iaload, 1)) {v : Int32} (hv : f i.toNatClampNeg = v) (kk : zW g l R E Q nL cells slots ws lv (.int v :: st) (pc + 1)) : zW g l R E Q nL cells slots ws lv (.int i :: .ref a :: st) pc := by
  subst hv
  exact fun H locs ls hP hD hS hl => va_iald C.x C.b C.K.1 hP q0 0 ha rfl hin d (kk H locs ls hP hD hS hl)
theorem z_ialdN (C : zC g E cc own Ts nL ret) {a n j : Nat} {f : Nat → Int32} (q0 : Nat) (ha : ws[q0]? = some (a, .inl (zI g, n, .inl f))) (hj : j < n) (hn : n < 2 ^ 31) (d : decode cc pc = .ok (.iaload, 1)) {v : Int32} (hv : f j = v) (kk : zW g l R E Q nL cells slots ws lv (.int v :: st) (pc + 1)) : zW g l R E Q nL cells slots ws lv (.int (nI j) :: .ref a :: st) pc :=
  z_iald C q0 ha (vp_in_nI hj hn) d (by rw [nI_clamp (by omega)]; exact hv) kk
theorem z_zaldN (C : zC g E cc own Ts nL ret) {a n j : Nat} {f : Nat → Int32} (q0 : Nat) (ha : ws[q0]? = some (a, .inl (zZ g, n, .inl f))) (hj : j < n) (hn : n < 2 ^ 31) (d : decode cc pc = .ok (.baload, 1)) {v : Int32} (hv : f j = v) (kk : zW g l R E Q nL cells slots ws lv (.int v :: st) (pc + 1)) : zW g l R E Q nL cells slots ws lv (.int (nI j) :: .ref a :: st) pc := by
  subst hv
  have e : (nI j).toNatClampNeg = j := nI_clamp (by omega)
  have k9 : zW g l R E Q nL cells slots ws lv (.int (f (nI j).toNatClampNeg) :: st) (pc + 1) := by rw [e]; exact kk
  exact fun H locs ls hP hD hS hl => va_zald C.x C.b C.K.1 hP q0 1 ha rfl (vp_in_nI hj hn) d (k9 H locs ls hP hD hS hl)
theorem z_iastN (C : zC g E cc own Ts nL ret) {a n j : Nat} {f : Nat → Int32} {x : Int32} (q0 : Nat) (ha : ws[q0]? = some (a, .inl (zI g, n, .inl f))) (hj : j < n) (hn : n < 2 ^ 31) (d : decode cc pc = .ok (.iastore, 1)) {w' : va_W} (hw : ws.set q0 (a, .inl (zI g, n, .inl (upd f j x))) = w') (kk : zW g l R E Q nL cells slots w' lv st (pc + 1)) : zW g l R E Q nL cells slots ws lv (.int x :: .int (nI j) :: .ref a :: st) pc := by
  have e : (nI j).toNatClampNeg = j := nI_clamp (by omega)
  have k9 : zW g l R E Q nL cells slots (ws.set q0 (a, .inl (zI g, n, .inl (upd f (nI j).toNatClampNeg x)))) lv st (pc + 1) := by rw [e, hw]; exact kk
  exact fun H locs ls hP hD hS hl => va_iast C.x C.b C.K.1 hP hD hS q0 0 ha rfl (vp_in_nI hj hn) d (fun H1 locs1 h1 h2 h3 => k9 H1 locs1 ls h1 h2 h3 hl)
theorem z_zastN (C : zC g E cc own Ts nL ret) {a n j : Nat} {f : Nat → Int32} {x y : Int32} (q0 : Nat) (ha : ws[q0]? = some (a, .inl (zZ g, n, .inl f))) (hj : j < n) (hn : n < 2 ^ 31) (hy : vp_nar .boolean x = y) (d : decode cc pc = .ok (.bastore, 1)) {w' : va_W} (hw : ws.set q0 (a, .inl (zZ g, n, .inl (upd f j y))) = w') (kk : zW g l R E Q nL cells slots w' lv st (pc + 1)) : zW g l R E Q nL cells slots ws lv (.int x :: .int (nI j) :: .ref a :: st) pc := by
  have e : (nI j).toNatClampNeg = j := nI_clamp (by omega)
  have k9 : zW g l R E Q nL cells slots (ws.set q0 (a, .inl (zZ g, n, .inl (upd f (nI j).toNatClampNeg (vp_nar .boolean x))))) lv st (pc + 1) := by rw [e, hy, hw]; exact kk
  exact fun H locs ls hP hD hS hl => va_zast C.x C.b C.K.1 hP hD hS q0 1 ha rfl (vp_in_nI hj hn) d (fun H1 locs1 h1 h2 h3 => k9 H1 locs1 ls h1 h2 h3 hl)
theorem z_alenI (C : zC g E cc own Ts nL ret) {a n : Nat} {f : Nat → Int32} (q0 : Nat) (ha : ws[q0]? = some (a, .inl (zI g, n, .inl f))) (d : decode cc pc = .ok (.arraylength, 1)) (kk : zW g l R E Q nL cells slots ws lv (.int (nI n) :: st) (pc + 1)) : zW g l R E Q nL cells slots ws lv (.ref a :: st) pc :=
  fun H locs ls hP hD hS hl => va_alen C.x C.b C.K.1 hP q0 0 ha (ty := .int) rfl rfl d (kk H locs ls hP hD hS hl)
end ZR2
-- contracts
/-- the end of a method: what it answers, and its world -/
def zQ (g : zG) (post : Option Value → va_W → Prop) (A : Nat → Prop) : Array Value → State → Outcome → State → Prop := fun _ st oc t => (∃ (v : Option Value) (w' : va_W), oc = .returned v ∧ post v w' ∧ va_P g.1 vwCl w' t.heap ∧ va_D A w') ∧ va_F A st t
def zPc (g : zG) (As : List Value) (w : va_W) (sz : Nat) : Array Value → State → Prop := va_Pc As (fun U => U.heap.size = sz ∧ va_P g.1 vwCl w U.heap ∧ zK g U ∧ va_D (fun _ => True) w)
/-- a method that returns -/
def zM (g : zG) (l : Launch) (y : MethodName) (ws : List Cond) (rm : Room) (As : List Value) (w : va_W) (post : Option Value → va_W → Prop) (mc ms : Nat) : Prop :=
  ∀ sz : Nat, Met l y ws rm (zPc g As w sz) (zQ g post (va_A w sz)) mc ms (va_A w sz)
theorem zPc.blind {g : zG} {As : List Value} {w : va_W} {sz : Nat} : FrameBlind (zPc g As w sz) := fun a U f mk q => by
  obtain ⟨q0, q1, qP, qK, qD⟩ := q
  exact ⟨q0, q1, qP, qK.call, qD⟩
theorem zM.mono {g : zG} {l : Launch} {y : MethodName} {ws : List Cond} {rm : Room} {As : List Value} {w : va_W} {p1 p2 : Option Value → va_W → Prop} {mc ms : Nat} (h : zM g l y ws rm As w p1 mc ms) (hp : ∀ v w', p1 v w' → p2 v w') : zM g l y ws rm As w p2 mc ms := by
  intro sz p e ha hc hk s m args below hf happ hP hT
  obtain ⟨t, o, h1, h2, h3, ⟨⟨⟨v, w', e1, e2, e3⟩, hF⟩, L⟩⟩ := h sz p e ha hc hk s m args below hf happ hP hT
  exact ⟨t, o, h1, h2, h3, ⟨⟨v, w', e1, hp _ _ e2, e3⟩, hF⟩, L⟩
section ZR3
variable {g : zG} {l : Launch} {R : Room} {E : zEnv} {Q : State → Prop} {nL cells slots : Nat} {ws ws' : va_W} {lv lv' : List (Nat × Value)} {st rest : List Value} {pc : Nat} {cc : ByteArray} {own : String} {Ts : List Cond} {ret : Option FieldType}
variable {post : Option Value → va_W → Prop} {mc ms : Nat}
abbrev zMQ (g : zG) (E : zEnv) (post : Option Value → va_W → Prop) (mc ms : Nat) : State → Prop := MQ (zbl E) (zQ g post (zA E)) (za E) (zs E) mc ms (zA E)
theorem z_ret_q {H : Heap} {locs : List Loc} {v : Option Value} (hP : va_P g.1 vwCl ws H) (hD : va_D (zA E) ws) (hS : va_S (zA E) (zs E).heap H locs) (hp : post v ws) : ∀ t : State, t.heap = H → (zs E).WarmedH t.vm → zQ g post (zA E) (za E) (zs E) (.returned v) t :=
  fun t ht _ => ⟨⟨v, ws, rfl, hp, by rw [ht]; exact hP, hD⟩, hS.F ht⟩
theorem z_iret (C : zC g E cc own Ts nL (some .int)) {v : Int32} (d : decode cc pc = .ok (.ireturn, 1)) (hp : post (some (.int v)) ws) : zW g l R E (zMQ g E post cells slots) nL cells slots ws lv [.int v] pc :=
  fun H locs ls hP hD hS hl => W.iret C.x C.b C.r (z_ret_q hP hD hS hp) hS.2.2 d C.lk
theorem z_zret (C : zC g E cc own Ts nL (some .boolean)) {v : Int32} (hn : narrow .boolean (.int v) = .int v) (d : decode cc pc = .ok (.ireturn, 1)) (hp : post (some (.int v)) ws) : zW g l R E (zMQ g E post cells slots) nL cells slots ws lv [.int v] pc :=
  fun H locs ls hP hD hS hl => W.zret C.x C.b C.r hn (z_ret_q hP hD hS hp) hS.2.2 d C.lk
theorem z_lret (C : zC g E cc own Ts nL (some .long)) {v : Int64} (d : decode cc pc = .ok (.lreturn, 1)) (hp : post (some (.long v)) ws) : zW g l R E (zMQ g E post cells slots) nL cells slots ws lv [.long v] pc :=
  fun H locs ls hP hD hS hl => W.lret C.x C.b C.r (z_ret_q hP hD hS hp) hS.2.2 d C.lk
theorem z_dret (C : zC g E cc own Ts nL (some .double)) {v : UInt64} (d : decode cc pc = .ok (.dreturn, 1)) (hp : post (some (.double v)) ws) : zW g l R E (zMQ g E post cells slots) nL cells slots ws lv [.double v] pc :=
  fun H locs ls hP hD hS hl => W.dret C.x C.b C.r (z_ret_q hP hD hS hp) hS.2.2 d C.lk
theorem z_vret (C : zC g E cc own Ts nL none) (d : decode cc pc = .ok (.return_, 1)) (hp : post none ws) : zW g l R E (zMQ g E post cells slots) nL cells slots ws lv [] pc :=
  fun H locs ls hP hD hS hl => W.vret C.x C.b C.r (z_ret_q hP hD hS hp) hS.2.2 d C.lk
theorem zM.of {y : MethodName} {rm : Room} {As : List Value} {w : va_W} {Ts' : List Cond} (hy : plainName y.cls = true) (hw : Ts = .code y cc nL ret :: Ts') (hn : (lg_sl As).length ≤ nL) (hlv : lv_args 0 As = lv)
    (body : ∀ E : zEnv, zC g E cc y.cls Ts nL ret → (y.name = "<init>" → (zmt E).name = "<init>") → zW g l rm E (zMQ g E post mc ms) nL 0 0 w lv [] 0) : zM g l y Ts rm As w post mc ms := by
  intro sz
  refine Met.ofW hy hw ?_
  intro p e s m args below meth c s₁ B hml hv
  obtain ⟨rfl, hsz, hP, hK, hD0⟩ := hv
  have hts := atoms_spec (ws := Ts) B.pre
  have hD := hD0.self (sz := s.heap.size)
  subst hsz
  have h := body (p, e, s, m, As.toArray, below, meth, c, va_A w s.heap.size) ⟨B.exec, B.bytes, hml, findClass_of_methodNamed B.named, hts, hK, fun q h => Or.inr h, B.notSynchronized, B.returns⟩ (fun h9 => by rw [← h9]; exact (name_of_methodNamed B.named B.method).1)
  have hl := lv_entry As (n := nL) hn
  rw [hlv] at hl
  rw [lg_entry_eq]
  exact h s.heap [] _ hP hD va_S.rf hl
/-- a call over the whole world, by what it runs to -/
theorem z_go {a : Array Value} {st0 : List Value} (hr : ∀ (H : Heap) (locs : List Loc) (ls : Array Slot), va_P g.1 vwCl ws H → va_D (zA E) ws → va_S (zA E) (zs E).heap H locs → lv_has ls nL lv → va_Run (zp E) l (ze E) R (zs E) (zm E) (za E) (zbl E) (zmt E) (zcd E) H locs cells slots mc ms (F0 (zm E) pc ls st0) rest (zQ g post (va_A ws H.size) a) (va_A ws H.size)) (hA : ∀ q, (zs E).heap.size ≤ q → zA E q)
    (kk : ∀ v w', post v w' → zW g l R E Q nL (cells + mc) (slots + ms) w' lv (v.toList ++ rest) (pc + 3)) : zW g l R E Q nL cells slots ws lv st0 pc := by
  intro H locs ls hP hD hS hl T hT X
  have hF : ∀ q, va_A ws H.size q → zA E q := by
    intro q h
    rcases h with ⟨k, e, h⟩ | h
    · exact hD.2 k (q, e) h
    · exact hA q (Nat.le_trans hS.1 h)
  obtain ⟨v, st₀, t, T', L, h0, X', hL, e1, e2, ⟨⟨v2, w', hv, hp, hP', hD'⟩, hz, hk⟩, st9⟩ := hr H locs ls hP hD hS hl T hT X
  cases hv
  rw [h0] at hz hk
  obtain ⟨t2, a1, b1⟩ := kk v w' hp T'.heap (locs ++ L) ls (by rw [e1]; exact hP') (hD'.weaken fun _ q _ h => hF q.1 h)
    ⟨Nat.le_trans hS.1 (by rw [e1]; exact hz), fun q h1 h2 => by rw [e1, hk q (Nat.lt_of_lt_of_le h1 hS.1) (fun z => h2 (hF q z))]; exact hS.2.1 q h1 h2, fun q hq => by
      rcases List.mem_append.mp hq with h | h
      · exact hS.2.2 q h
      · exact hF _ (hL q h)⟩ hl T' rfl X'
  exact ⟨t2, st9 t2 a1, b1⟩
theorem z_pcS {w : va_W} {H : Heap} {As : List Value} (hK : zK g (zs E)) (hP : va_P g.1 vwCl w H) (hD : va_D (zA E) w) : PreS (zs E) H (zPc g As w H.size) As :=
  ⟨zPc.blind, fun U hU hW => ⟨rfl, by rw [hU], by rw [hU]; exact hP, hK.warm hW, hD.weaken fun _ _ _ _ => trivial⟩⟩
theorem z_pcV {w : va_W} {H : Heap} {As : List Value} {q0 ci b : Nat} {fs : List Value} {Cn : String} {T : u_T} {N : Nat} (hK : zK g (zs E)) (hP : va_P g.1 vwCl w H) (hD : va_D (zA E) w) (he : w[q0]? = some (b, .inr (ci, fs))) (hc : vwCl[ci]? = some (Cn, T, N)) : PreV (zs E) H Cn b (zPc g (.ref b :: As) w H.size) As :=
  ⟨zPc.blind, va_recv hK.1 hP hc he, fun U hU hW => ⟨rfl, by rw [hU], by rw [hU]; exact hP, hK.warm hW, hD.weaken fun _ _ _ _ => trivial⟩⟩
/-- a method of this object's class, or of another's that is called as its own -/
theorem z_callV (C : zC g E cc own Ts nL ret) {y : MethodName} {bytes : ByteArray} {maxL n index : Nat} {rt : Option FieldType} {wy : List Cond} {rm : Room} {As : List Value} {b q0 ci N : Nat} {fs : List Value} {Cn : String} {T : u_T}
    (hM : zM g l y wy rm (.ref b :: As) ws post mc ms) (cw : CallW R (zs E) (za E) own Cn index y bytes maxL rt wy rm mc ms n) (he : ws[q0]? = some (b, .inr (ci, fs))) (hc : vwCl[ci]? = some (Cn, T, N)) (hn : As.length = n) (hst : st = As.reverse ++ .ref b :: rest) (hr : (rest.map fun v => v.category).sum ≤ 8) (d : decode cc pc = .ok (.invokevirtual index, 3)) (hf : cells + mc ≤ R.cells ∧ slots + ms ≤ R.slots)
    (kk : ∀ v w', post v w' → zW g l R E Q nL (cells + mc) (slots + ms) w' lv (v.toList ++ rest) (pc + 3)) : zW g l R E Q nL cells slots ws lv st pc :=
  z_go (fun H locs ls hP hD hS hl => va_runV C.fx (hM H.size) cw (z_pcV C.K hP hD he hc) rfl hn hl.1 hst (lv_room hr) d hf) C.A kk
theorem z_callVN (C : zC g E cc own Ts nL ret) {y : MethodName} {bytes : ByteArray} {maxL n index : Nat} {rt : Option FieldType} {wy : List Cond} {rm : Room} {As : List Value} {b q0 ci N : Nat} {fs : List Value} {Cn host : String} {T : u_T}
    (hM : zM g l y wy rm (.ref b :: As) ws post mc ms) (cw : va_CN R (zs E) (za E) own index y host bytes maxL rt wy rm mc ms n ∧ (Cond.instanceMethod y).before (za E) (zs E) = true ∧ (Cond.selects Cn y y).before (za E) (zs E) = true) (he : ws[q0]? = some (b, .inr (ci, fs))) (hc : vwCl[ci]? = some (Cn, T, N)) (hn : As.length = n) (hst : st = As.reverse ++ .ref b :: rest) (hr : (rest.map fun v => v.category).sum ≤ 8) (d : decode cc pc = .ok (.invokevirtual index, 3)) (hf : cells + mc ≤ R.cells ∧ slots + ms ≤ R.slots)
    (kk : ∀ v w', post v w' → zW g l R E Q nL (cells + mc) (slots + ms) w' lv (v.toList ++ rest) (pc + 3)) : zW g l R E Q nL cells slots ws lv st pc :=
  z_go (fun H locs ls hP hD hS hl => va_runVN C.fx (hM H.size) cw (z_pcV C.K hP hD he hc) rfl hn hl.1 hst (lv_room hr) d hf) C.A kk
theorem z_callS (C : zC g E cc own Ts nL ret) {y : MethodName} {bytes : ByteArray} {maxL n index : Nat} {rt : Option FieldType} {wy : List Cond} {rm : Room} {As : List Value}
    (hM : zM g l y wy rm As ws post mc ms) (cw : CallB R (zs E) (za E) own index y bytes maxL rt wy rm mc ms n ∧ (Cond.static y).before (za E) (zs E) = true) (hn : As.length = n) (hst : st = As.reverse ++ rest) (hr : (rest.map fun v => v.category).sum ≤ 8) (d : decode cc pc = .ok (.invokestatic index, 3)) (hf : cells + mc ≤ R.cells ∧ slots + ms ≤ R.slots)
    (kk : ∀ v w', post v w' → zW g l R E Q nL (cells + mc) (slots + ms) w' lv (v.toList ++ rest) (pc + 3)) : zW g l R E Q nL cells slots ws lv st pc :=
  z_go (fun H locs ls hP hD hS hl => va_runS C.fx (hM H.size) cw (z_pcS C.K hP hD) rfl hn hl.1 hst (lv_room hr) d hf) C.A kk
theorem z_callI (C : zC g E cc own Ts nL ret) {y : MethodName} {bytes : ByteArray} {maxL n index : Nat} {wy : List Cond} {rm : Room} {As : List Value} {b : Nat}
    (hM : zM g l y wy rm (.ref b :: As) ws post mc ms) (cw : CallB R (zs E) (za E) own index y bytes maxL none wy rm mc ms n ∧ y.name = "<init>" ∧ (Cond.instanceMethod y).before (za E) (zs E) = true) (hn : As.length = n) (hst : st = As.reverse ++ .ref b :: rest) (hr : (rest.map fun v => v.category).sum ≤ 8) (d : decode cc pc = .ok (.invokespecial index, 3)) (hf : cells + mc ≤ R.cells ∧ slots + ms ≤ R.slots)
    (kk : ∀ v w', post v w' → zW g l R E Q nL (cells + mc) (slots + ms) w' lv (v.toList ++ rest) (pc + 3)) : zW g l R E Q nL cells slots ws lv st pc :=
  z_go (fun H locs ls hP hD hS hl => va_runI C.fx (hM H.size) cw (z_pcS C.K hP hD) rfl hn hl.1 hst (lv_room hr) d hf) C.A kk
theorem z_objInit (C : zC g E cc own Ts nL ret) {a idx : Nat} (hlink : (Cond.methodLink own idx Lib.objectInit).before (za E) (zs E) = true) (hinst : (Cond.instanceMethod Lib.objectInit).before (za E) (zs E) = true) (hcode : (Cond.code Lib.objectInit ⟨#[0xb1]⟩ 1 none).before (za E) (zs E) = true) (d : decode cc pc = .ok (.invokespecial idx, 3)) (hf : 1 ≤ R.frames) (hlo : (rest.map fun v => v.category).sum + 12 ≤ R.locals)
    (kk : zW g l R E Q nL cells slots ws lv rest (pc + 3)) : zW g l R E Q nL cells slots ws lv (.ref a :: rest) pc :=
  fun H locs ls hP hD hS hl => W.objInit C.x C.b C.ow hlink hinst hcode rfl (hl.1.trans C.2.2.1.symm) rfl d hf (by show 2 * 0 + _ + 12 ≤ _; omega) (kk H locs ls hP hD hS hl)
end ZR3
end
section
/-! numbers of the walk: nI of naturals, iZ of integers, bI of truth values -/
def iZ (x : Int) : Int32 := Int32.ofInt x
def bI (b : Bool) : Int32 := if b = true then 1 else 0
theorem iZ_n (n : Nat) : iZ (n : Int) = nI n := rfl
theorem nI_iZ (n : Nat) : nI n = iZ (n : Int) := rfl
theorem iZ_add (x y : Int) : iZ x + iZ y = iZ (x + y) := (Int32.ofInt_add x y).symm
theorem iZ_sub (x y : Int) : iZ x - iZ y = iZ (x - y) := (Int32.ofInt_sub x y).symm
theorem iZ_mul (x y : Int) : iZ x * iZ y = iZ (x * y) := (Int32.ofInt_mul x y).symm
def zB31 (x : Int) : Prop := -2147483648 ≤ x ∧ x < 2147483648
theorem iZ_toInt {x : Int} (h : zB31 x) : (iZ x).toInt = x := by
  unfold iZ zB31 at *
  exact Int32.toInt_ofInt_of_le h.1 h.2
theorem zlt_ZZ {x y : Int} (hx : zB31 x) (hy : zB31 y) : iZ x < iZ y ↔ x < y := by rw [Int32.lt_iff_toInt_lt, iZ_toInt hx, iZ_toInt hy]
theorem zle_ZZ {x y : Int} (hx : zB31 x) (hy : zB31 y) : iZ x ≤ iZ y ↔ x ≤ y := by rw [Int32.le_iff_toInt_le, iZ_toInt hx, iZ_toInt hy]
theorem zeq_ZZ {x y : Int} (hx : zB31 x) (hy : zB31 y) : iZ x = iZ y ↔ x = y := by
  refine ⟨fun h => ?_, fun h => by rw [h]⟩
  have h2 := congrArg Int32.toInt h
  rwa [iZ_toInt hx, iZ_toInt hy] at h2
theorem zlt_NN {x y : Nat} (hx : x < 2147483648) (hy : y < 2147483648) : nI x < nI y ↔ x < y := nI_ltI hx hy
theorem zle_NN {x y : Nat} (hx : x < 2147483648) (hy : y < 2147483648) : nI x ≤ nI y ↔ x ≤ y := nI_leI hx hy
theorem zeq_NN {x y : Nat} (hx : x < 2147483648) (hy : y < 2147483648) : nI x = nI y ↔ x = y := nI_eq hx hy
theorem zeq_N0 {x : Nat} (hx : x < 2147483648) : nI x = 0 ↔ x = 0 := nI_eq (b := 0) hx (by decide)
theorem zle_0Z {x : Int} (hx : zB31 x) : 0 ≤ iZ x ↔ 0 ≤ x := zle_ZZ (x := 0) ⟨by decide, by decide⟩ hx
theorem zlt_Z0 {x : Int} (hx : zB31 x) : iZ x < 0 ↔ x < 0 := zlt_ZZ (y := 0) hx ⟨by decide, by decide⟩
theorem zeq_B0 (b : Bool) : bI b = 0 ↔ b = false := by cases b <;> decide
theorem zbI_nar (b : Bool) : narrow .boolean (.int (bI b)) = .int (bI b) := by cases b <;> rfl
theorem zbI_vp (b : Bool) : vp_nar .boolean (bI b) = bI b := by cases b <;> rfl
theorem zand_NN (x y : Nat) : nI x &&& nI y = nI (x &&& y) := by
  unfold nI
  apply Int32.toBitVec_inj.mp
  simp only [Int32.toBitVec_and, Int32.toBitVec_ofNat']
  exact BitVec.ofNat_and.symm
theorem zor_NN (x y : Nat) : nI x ||| nI y = nI (x ||| y) := by
  unfold nI
  apply Int32.toBitVec_inj.mp
  simp only [Int32.toBitVec_or, Int32.toBitVec_ofNat']
  exact BitVec.ofNat_or.symm
theorem zsh_cnt : ∀ k : Fin 31, (((nI k.val) &&& 31).toBitVec.smod 32).toNat = k.val := by decide +kernel
theorem zshl_NN {x k : Nat} (hk : k < 31) (h : x * 2 ^ k < 4294967296) : nI x <<< (nI k &&& 31) = nI (x * 2 ^ k) := pk_shlN _ k (zsh_cnt ⟨k, hk⟩) h
theorem zshl_1N {k : Nat} (hk : k < 31) : (1 : Int32) <<< (nI k &&& 31) = nI (2 ^ k) := by
  have h := zshl_NN (x := 1) hk (by
    have h2 : 2 ^ k ≤ 2 ^ 30 := Nat.pow_le_pow_right (by decide) (by omega)
    omega)
  rw [Nat.one_mul] at h
  exact h
theorem zshr_NN {x k : Nat} (hk : k < 31) (hx : x < 2147483648) : nI x >>> (nI k &&& 31) = nI (x / 2 ^ k) := pk_shrN hx _ k (zsh_cnt ⟨k, hk⟩)
theorem zbit_pow (n k : Nat) : n &&& 2 ^ k = 0 ↔ n.testBit k = false := by
  constructor
  · intro h
    have h2 := congrArg (fun x => Nat.testBit x k) h
    simpa [Nat.testBit_and, Nat.testBit_two_pow] using h2
  · intro h
    apply Nat.eq_of_testBit_eq
    intro i
    rw [Nat.testBit_and, Nat.testBit_two_pow, Nat.zero_testBit]
    by_cases e : k = i
    · subst e; simp [h]
    · simp [e]
/-- n & (1 << k), against 0 -/
theorem zbit_0 {n k : Nat} (hk : k < 31) : nI (n &&& 2 ^ k) = 0 ↔ n.testBit k = false := by
  have h1 : n &&& 2 ^ k < 2147483648 := by
    have h2 : n &&& 2 ^ k ≤ 2 ^ k := Nat.and_le_right
    have h3 : 2 ^ k ≤ 2 ^ 30 := Nat.pow_le_pow_right (by decide) (by omega)
    omega
  rw [zeq_N0 h1, zbit_pow]
/-! the state of the system -/
abbrev zS : Type := Nat × Nat × Nat × Nat × (Nat → Nat) × (Nat → Nat) × (Nat → Nat) × (Nat → Nat) × (Nat → Nat) × (Nat → Nat)
def zNf (a : zS) : Nat := a.1
def zNd (a : zS) : Nat := a.2.1
def zNb (a : zS) : Nat := a.2.2.1
def zOu (a : zS) : Nat := a.2.2.2.1
def zRs (a : zS) : Nat → Nat := a.2.2.2.2.1
def zOw (a : zS) : Nat → Nat := a.2.2.2.2.2.1
def zBu (a : zS) : Nat → Nat := a.2.2.2.2.2.2.1
def zPr (a : zS) : Nat → Nat := a.2.2.2.2.2.2.2.1
def zWo (a : zS) : Nat → Nat := a.2.2.2.2.2.2.2.2.1
def zGo (a : zS) : Nat → Nat := a.2.2.2.2.2.2.2.2.2
def zMk (nf nd nb ou : Nat) (rs ow bu pr wo go : Nat → Nat) : zS := (nf, nd, nb, ou, rs, ow, bu, pr, wo, go)
def zSetRs (a : zS) (f x : Nat) : zS := zMk (zNf a) (zNd a) (zNb a) (zOu a) (va_up (zRs a) f x) (zOw a) (zBu a) (zPr a) (zWo a) (zGo a)
def zSetNf (a : zS) (n : Nat) : zS := zMk n (zNd a) (zNb a) (zOu a) (zRs a) (zOw a) (zBu a) (zPr a) (zWo a) (zGo a)
def zSetNd (a : zS) (n : Nat) : zS := zMk (zNf a) n (zNb a) (zOu a) (zRs a) (zOw a) (zBu a) (zPr a) (zWo a) (zGo a)
def zSetNb (a : zS) (n : Nat) : zS := zMk (zNf a) (zNd a) n (zOu a) (zRs a) (zOw a) (zBu a) (zPr a) (zWo a) (zGo a)
def zSetOu (a : zS) (n : Nat) : zS := zMk (zNf a) (zNd a) (zNb a) n (zRs a) (zOw a) (zBu a) (zPr a) (zWo a) (zGo a)
def zSetOw (a : zS) (b x : Nat) : zS := zMk (zNf a) (zNd a) (zNb a) (zOu a) (zRs a) (va_up (zOw a) b x) (zBu a) (zPr a) (zWo a) (zGo a)
def zSetBu (a : zS) (b x : Nat) : zS := zMk (zNf a) (zNd a) (zNb a) (zOu a) (zRs a) (zOw a) (va_up (zBu a) b x) (zPr a) (zWo a) (zGo a)
def zSetPr (a : zS) (b x : Nat) : zS := zMk (zNf a) (zNd a) (zNb a) (zOu a) (zRs a) (zOw a) (zBu a) (va_up (zPr a) b x) (zWo a) (zGo a)
def zSetWo (a : zS) (b x : Nat) : zS := zMk (zNf a) (zNd a) (zNb a) (zOu a) (zRs a) (zOw a) (zBu a) (zPr a) (va_up (zWo a) b x) (zGo a)
def zSetGo (a : zS) (b x : Nat) : zS := zMk (zNf a) (zNd a) (zNb a) (zOu a) (zRs a) (zOw a) (zBu a) (zPr a) (zWo a) (va_up (zGo a) b x)
/-- what holds of every state -/
def zOk (a : zS) : Prop := zNf a ≤ 8 ∧ zNd a ≤ 5 ∧ zNb a ≤ 12 ∧ zOu a < 2 ^ zNd a ∧ (∀ f, f < zNf a → zRs a f ≤ 99) ∧ ∀ b, b < zNb a → zOw a b < zNd a ∧ 0 < zBu a b ∧ zBu a b < 2 ^ zNf a ∧ zPr a b ≤ 999 ∧ zWo a b ≤ 999 ∧ zGo a b ≤ 1
def zSum (f : Nat → Nat) : Nat → Nat
  | 0 => 0
  | n + 1 => zSum f n + f n
def zRes (a : zS) (m : Nat) : Nat := zSum (fun f => if m.testBit f = true then zRs a f else 0) (zNf a)
def zGn (a : zS) (b : Nat) : Int := (zPr a b : Int) - (zRes a (zBu a b) : Int)
def zG0 (a : zS) : Nat → Int := fun k => if k < zNb a then zGn a k else 0
def zCn (a : zS) (o b : Nat) : Bool := zGo a b == 0 && (!(o.testBit (zOw a b)) && decide (0 ≤ zGn a b))
def zIn (a : zS) (k : Nat) : Bool := decide (k < zNd a) && !((zOu a).testBit k)
/-! the class's world: 0 the object, 1 reserves, 2 ins, 3 owners, 4 bundles, 5 prices, 6 gains, 7 worths, 8 withdrawn, 9 to 11 the sets of bids (of the sale, of the imagined one, of the search), 12, 13 the sales, 14, 15 their winning bids, 16, 17 what is paid, 18, 19 the sums without -/
def wB (g : zG) (q : Nat → Nat) (a : zS) (G : Nat → Int) (bs : Nat → Int × Nat) (wb pd gw : Nat → Nat → Int) : va_W :=
  [(q 0, .inr (2, [.ref (q 1), .int (nI (zNf a)), .ref (q 2), .int (nI (zNd a)), .ref (q 3), .ref (q 4), .ref (q 5), .ref (q 6), .ref (q 7), .ref (q 8), .int (nI (zNb a)), .ref (q 12), .ref (q 13), .ref (q 11)])),
   (q 1, .inl (zI g, 8, .inl (fun k => nI (zRs a k)))), (q 2, .inl (zZ g, 5, .inl (fun k => bI (zIn a k)))),
   (q 3, .inl (zI g, 12, .inl (fun k => nI (zOw a k)))), (q 4, .inl (zI g, 12, .inl (fun k => nI (zBu a k)))), (q 5, .inl (zI g, 12, .inl (fun k => nI (zPr a k)))),
   (q 6, .inl (zI g, 12, .inl (fun k => iZ (G k)))), (q 7, .inl (zI g, 12, .inl (fun k => nI (zWo a k)))), (q 8, .inl (zZ g, 12, .inl (fun k => nI (zGo a k)))),
   (q 9, .inr (0, [.int (iZ (bs 0).1), .int (nI (bs 0).2)])), (q 10, .inr (0, [.int (iZ (bs 1).1), .int (nI (bs 1).2)])), (q 11, .inr (0, [.int (iZ (bs 2).1), .int (nI (bs 2).2)])),
   (q 12, .inr (1, [.ref (q 9), .ref (q 14), .ref (q 16), .ref (q 18)])), (q 13, .inr (1, [.ref (q 10), .ref (q 15), .ref (q 17), .ref (q 19)])),
   (q 14, .inl (zI g, 5, .inl (fun d => iZ (wb 0 d)))), (q 15, .inl (zI g, 5, .inl (fun d => iZ (wb 1 d)))),
   (q 16, .inl (zI g, 5, .inl (fun d => iZ (pd 0 d)))), (q 17, .inl (zI g, 5, .inl (fun d => iZ (pd 1 d)))),
   (q 18, .inl (zI g, 5, .inl (fun d => iZ (gw 0 d)))), (q 19, .inl (zI g, 5, .inl (fun d => iZ (gw 1 d))))]
section WB
variable {g : zG} {q : Nat → Nat} {a : zS} {G : Nat → Int} {bs : Nat → Int × Nat} {wb pd gw : Nat → Nat → Int}
theorem wB_o : (wB g q a G bs wb pd gw)[0]? = some (q 0, .inr (2, [.ref (q 1), .int (nI (zNf a)), .ref (q 2), .int (nI (zNd a)), .ref (q 3), .ref (q 4), .ref (q 5), .ref (q 6), .ref (q 7), .ref (q 8), .int (nI (zNb a)), .ref (q 12), .ref (q 13), .ref (q 11)])) := rfl
theorem wB_rs : (wB g q a G bs wb pd gw)[1]? = some (q 1, .inl (zI g, 8, .inl (fun k => nI (zRs a k)))) := rfl
theorem wB_in : (wB g q a G bs wb pd gw)[2]? = some (q 2, .inl (zZ g, 5, .inl (fun k => bI (zIn a k)))) := rfl
theorem wB_ow : (wB g q a G bs wb pd gw)[3]? = some (q 3, .inl (zI g, 12, .inl (fun k => nI (zOw a k)))) := rfl
theorem wB_bu : (wB g q a G bs wb pd gw)[4]? = some (q 4, .inl (zI g, 12, .inl (fun k => nI (zBu a k)))) := rfl
theorem wB_pr : (wB g q a G bs wb pd gw)[5]? = some (q 5, .inl (zI g, 12, .inl (fun k => nI (zPr a k)))) := rfl
theorem wB_G : (wB g q a G bs wb pd gw)[6]? = some (q 6, .inl (zI g, 12, .inl (fun k => iZ (G k)))) := rfl
theorem wB_wo : (wB g q a G bs wb pd gw)[7]? = some (q 7, .inl (zI g, 12, .inl (fun k => nI (zWo a k)))) := rfl
theorem wB_go : (wB g q a G bs wb pd gw)[8]? = some (q 8, .inl (zZ g, 12, .inl (fun k => nI (zGo a k)))) := rfl
theorem wB_bs {z : Nat} (hz : z < 3) : (wB g q a G bs wb pd gw)[9 + z]? = some (q (9 + z), .inr (0, [.int (iZ (bs z).1), .int (nI (bs z).2)])) := by
  match z, hz with
  | 0, _ => rfl
  | 1, _ => rfl
  | 2, _ => rfl
theorem wB_sl {z : Nat} (hz : z < 2) : (wB g q a G bs wb pd gw)[12 + z]? = some (q (12 + z), .inr (1, [.ref (q (9 + z)), .ref (q (14 + z)), .ref (q (16 + z)), .ref (q (18 + z))])) := by
  match z, hz with
  | 0, _ => rfl
  | 1, _ => rfl
theorem wB_wb {z : Nat} (hz : z < 2) : (wB g q a G bs wb pd gw)[14 + z]? = some (q (14 + z), .inl (zI g, 5, .inl (fun d => iZ (wb z d)))) := by
  match z, hz with
  | 0, _ => rfl
  | 1, _ => rfl
theorem wB_pd {z : Nat} (hz : z < 2) : (wB g q a G bs wb pd gw)[16 + z]? = some (q (16 + z), .inl (zI g, 5, .inl (fun d => iZ (pd z d)))) := by
  match z, hz with
  | 0, _ => rfl
  | 1, _ => rfl
theorem wB_gw {z : Nat} (hz : z < 2) : (wB g q a G bs wb pd gw)[18 + z]? = some (q (18 + z), .inl (zI g, 5, .inl (fun d => iZ (gw z d)))) := by
  match z, hz with
  | 0, _ => rfl
  | 1, _ => rfl
-- writes
theorem zup_N (f : Nat → Nat) (k x : Nat) : upd (fun j => nI (f j)) k (nI x) = fun j => nI (va_up f k x j) := by
  funext j
  simp only [upd, va_up]
  split <;> rfl
theorem zup_Z (f : Nat → Int) (k : Nat) (x : Int) : upd (fun j => iZ (f j)) k (iZ x) = fun j => iZ (va_up f k x j) := by
  funext j
  simp only [upd, va_up]
  split <;> rfl
/-- an array of a family is written -/
def zup2 {α : Type} (w : Nat → Nat → α) (z k : Nat) (x : α) : Nat → Nat → α := va_up w z (va_up (w z) k x)
theorem wB_set_rs (f x : Nat) : (wB g q a G bs wb pd gw).set 1 (q 1, .inl (zI g, 8, .inl (upd (fun k => nI (zRs a k)) f (nI x)))) = wB g q (zSetRs a f x) G bs wb pd gw := by rw [zup_N]; rfl
theorem wB_set_ow (f x : Nat) : (wB g q a G bs wb pd gw).set 3 (q 3, .inl (zI g, 12, .inl (upd (fun k => nI (zOw a k)) f (nI x)))) = wB g q (zSetOw a f x) G bs wb pd gw := by rw [zup_N]; rfl
theorem wB_set_bu (f x : Nat) : (wB g q a G bs wb pd gw).set 4 (q 4, .inl (zI g, 12, .inl (upd (fun k => nI (zBu a k)) f (nI x)))) = wB g q (zSetBu a f x) G bs wb pd gw := by rw [zup_N]; rfl
theorem wB_set_pr (f x : Nat) : (wB g q a G bs wb pd gw).set 5 (q 5, .inl (zI g, 12, .inl (upd (fun k => nI (zPr a k)) f (nI x)))) = wB g q (zSetPr a f x) G bs wb pd gw := by rw [zup_N]; rfl
theorem wB_set_G (f : Nat) (x : Int) : (wB g q a G bs wb pd gw).set 6 (q 6, .inl (zI g, 12, .inl (upd (fun k => iZ (G k)) f (iZ x)))) = wB g q a (va_up G f x) bs wb pd gw := by rw [zup_Z]; rfl
theorem wB_set_wo (f x : Nat) : (wB g q a G bs wb pd gw).set 7 (q 7, .inl (zI g, 12, .inl (upd (fun k => nI (zWo a k)) f (nI x)))) = wB g q (zSetWo a f x) G bs wb pd gw := by rw [zup_N]; rfl
theorem wB_set_go (f x : Nat) : (wB g q a G bs wb pd gw).set 8 (q 8, .inl (zZ g, 12, .inl (upd (fun k => nI (zGo a k)) f (nI x)))) = wB g q (zSetGo a f x) G bs wb pd gw := by rw [zup_N]; rfl
theorem wB_set_nf (n : Nat) : (wB g q a G bs wb pd gw).set 0 (q 0, .inr (2, [Value.ref (q 1), .int (nI (zNf a)), .ref (q 2), .int (nI (zNd a)), .ref (q 3), .ref (q 4), .ref (q 5), .ref (q 6), .ref (q 7), .ref (q 8), .int (nI (zNb a)), .ref (q 12), .ref (q 13), .ref (q 11)].set 1 (.int (nI n)))) = wB g q (zSetNf a n) G bs wb pd gw := rfl
theorem wB_set_nb (n : Nat) : (wB g q a G bs wb pd gw).set 0 (q 0, .inr (2, [Value.ref (q 1), .int (nI (zNf a)), .ref (q 2), .int (nI (zNd a)), .ref (q 3), .ref (q 4), .ref (q 5), .ref (q 6), .ref (q 7), .ref (q 8), .int (nI (zNb a)), .ref (q 12), .ref (q 13), .ref (q 11)].set 10 (.int (nI n)))) = wB g q (zSetNb a n) G bs wb pd gw := rfl
theorem wB_set_bs1 {z : Nat} (hz : z < 3) (x : Int) : (wB g q a G bs wb pd gw).set (9 + z) (q (9 + z), .inr (0, [Value.int (iZ (bs z).1), .int (nI (bs z).2)].set 0 (.int (iZ x)))) = wB g q a G (va_up bs z (x, (bs z).2)) wb pd gw := by
  match z, hz with
  | 0, _ => rfl
  | 1, _ => rfl
  | 2, _ => rfl
theorem wB_set_bs2 {z : Nat} (hz : z < 3) (x : Nat) : (wB g q a G bs wb pd gw).set (9 + z) (q (9 + z), .inr (0, [Value.int (iZ (bs z).1), .int (nI (bs z).2)].set 1 (.int (nI x)))) = wB g q a G (va_up bs z ((bs z).1, x)) wb pd gw := by
  match z, hz with
  | 0, _ => rfl
  | 1, _ => rfl
  | 2, _ => rfl
theorem wB_set_wb {z : Nat} (hz : z < 2) (d : Nat) (x : Int) : (wB g q a G bs wb pd gw).set (14 + z) (q (14 + z), .inl (zI g, 5, .inl (upd (fun d => iZ (wb z d)) d (iZ x)))) = wB g q a G bs (zup2 wb z d x) pd gw := by
  rw [zup_Z]
  match z, hz with
  | 0, _ => rfl
  | 1, _ => rfl
theorem wB_set_pd {z : Nat} (hz : z < 2) (d : Nat) (x : Int) : (wB g q a G bs wb pd gw).set (16 + z) (q (16 + z), .inl (zI g, 5, .inl (upd (fun d => iZ (pd z d)) d (iZ x)))) = wB g q a G bs wb (zup2 pd z d x) gw := by
  rw [zup_Z]
  match z, hz with
  | 0, _ => rfl
  | 1, _ => rfl
theorem wB_set_gw {z : Nat} (hz : z < 2) (d : Nat) (x : Int) : (wB g q a G bs wb pd gw).set (18 + z) (q (18 + z), .inl (zI g, 5, .inl (upd (fun d => iZ (gw z d)) d (iZ x)))) = wB g q a G bs wb pd (zup2 gw z d x) := by
  rw [zup_Z]
  match z, hz with
  | 0, _ => rfl
  | 1, _ => rfl
end WB
end
section
/-! what a method answers, said plainly, and how a call goes on -/
def zPi (x : Int32) (w : va_W) : Option Value → va_W → Prop := fun v w' => v = some (.int x) ∧ w' = w
def zPl (x : Int64) (w : va_W) : Option Value → va_W → Prop := fun v w' => v = some (.long x) ∧ w' = w
def zPd (x : UInt64) (w : va_W) : Option Value → va_W → Prop := fun v w' => v = some (.double x) ∧ w' = w
def zPv (w : va_W) : Option Value → va_W → Prop := fun v w' => v = none ∧ w' = w
section ZR4
variable {g : zG} {l : Launch} {R : Room} {E : zEnv} {Q : State → Prop} {nL cells slots : Nat} {ws w2 : va_W} {lv lv' : List (Nat × Value)} {st rest : List Value} {pc : Nat} {cc : ByteArray} {own : String} {Ts : List Cond} {ret : Option FieldType}
theorem z_i {x : Int32} (kk : zW g l R E Q nL cells slots w2 lv (.int x :: rest) pc) : ∀ v w', zPi x w2 v w' → zW g l R E Q nL (cells + 0) (slots + 0) w' lv (v.toList ++ rest) pc := by
  rintro _ _ ⟨rfl, rfl⟩; exact kk
theorem z_l {x : Int64} (kk : zW g l R E Q nL cells slots w2 lv (.long x :: rest) pc) : ∀ v w', zPl x w2 v w' → zW g l R E Q nL (cells + 0) (slots + 0) w' lv (v.toList ++ rest) pc := by
  rintro _ _ ⟨rfl, rfl⟩; exact kk
theorem z_d {x : UInt64} (kk : zW g l R E Q nL cells slots w2 lv (.double x :: rest) pc) : ∀ v w', zPd x w2 v w' → zW g l R E Q nL (cells + 0) (slots + 0) w' lv (v.toList ++ rest) pc := by
  rintro _ _ ⟨rfl, rfl⟩; exact kk
theorem z_v (kk : zW g l R E Q nL cells slots w2 lv rest pc) : ∀ v w', zPv w2 v w' → zW g l R E Q nL (cells + 0) (slots + 0) w' lv (v.toList ++ rest) pc := by
  rintro _ _ ⟨rfl, rfl⟩; exact kk
theorem z_iretP (C : zC g E cc own Ts nL (some .int)) {v x : Int32} (d : decode cc pc = .ok (.ireturn, 1)) (hx : v = x) (hw : ws = w2) : zW g l R E (zMQ g E (zPi x w2) cells slots) nL cells slots ws lv [.int v] pc :=
  z_iret C d ⟨by rw [hx], hw⟩
theorem z_zretP (C : zC g E cc own Ts nL (some .boolean)) {v : Int32} {b : Bool} (d : decode cc pc = .ok (.ireturn, 1)) (hx : v = bI b) (hw : ws = w2) : zW g l R E (zMQ g E (zPi (bI b) w2) cells slots) nL cells slots ws lv [.int v] pc := by
  subst hx
  exact z_zret C (zbI_nar b) d ⟨rfl, hw⟩
theorem z_lretP (C : zC g E cc own Ts nL (some .long)) {v x : Int64} (d : decode cc pc = .ok (.lreturn, 1)) (hx : v = x) (hw : ws = w2) : zW g l R E (zMQ g E (zPl x w2) cells slots) nL cells slots ws lv [.long v] pc :=
  z_lret C d ⟨by rw [hx], hw⟩
theorem z_dretP (C : zC g E cc own Ts nL (some .double)) {v x : UInt64} (d : decode cc pc = .ok (.dreturn, 1)) (hx : v = x) (hw : ws = w2) : zW g l R E (zMQ g E (zPd x w2) cells slots) nL cells slots ws lv [.double v] pc :=
  z_dret C d ⟨by rw [hx], hw⟩
theorem z_vretP (C : zC g E cc own Ts nL none) (d : decode cc pc = .ok (.return_, 1)) (hw : ws = w2) : zW g l R E (zMQ g E (zPv w2) cells slots) nL cells slots ws lv [] pc :=
  z_vret C d ⟨rfl, hw⟩
theorem zW.lve (h : lv = lv') (k : zW g l R E Q nL cells slots ws lv' st pc) : zW g l R E Q nL cells slots ws lv st pc := h ▸ k
end ZR4
/-! more numbers -/
theorem zlt_N0 {x : Nat} (h : x < 2147483648) : nI x < 0 ↔ False := ⟨fun q => absurd ((nI_ltI (b := 0) h (by decide)).mp q) (Nat.not_lt_zero _), False.elim⟩
theorem zle_0N {x : Nat} (h : x < 2147483648) : 0 ≤ nI x ↔ True := ⟨fun _ => trivial, fun _ => nI_pos' h⟩
theorem zgt_0N {x : Nat} (h : x < 2147483648) : 0 < nI x ↔ 0 < x := nI_ltI (a := 0) (by decide) h
theorem zle_N0 {x : Nat} (h : x < 2147483648) : nI x ≤ 0 ↔ x = 0 := (nI_leI (b := 0) h (by decide)).trans (by omega)
/-- how many bits below k are set -/
def zPop (n : Nat) : Nat → Nat
  | 0 => 0
  | k + 1 => zPop n k + (if n.testBit k = true then 1 else 0)
/-- the second set of bids beats the first -/
def zBt (p r : Int × Nat) : Bool := if r.1 = p.1 then (if zPop r.2 12 = zPop p.2 12 then decide (r.2 < p.2) else decide (zPop p.2 12 < zPop r.2 12)) else decide (p.1 < r.1)
theorem zPop_le (n k : Nat) : zPop n k ≤ k := by
  induction k with
  | zero => exact Nat.le_refl 0
  | succ k ih =>
    unfold zPop
    split <;> omega
theorem zup_id {α : Type} (f : Nat → α) (k : Nat) : va_up f k (f k) = f := by
  funext j
  simp only [va_up]
  split
  · next h => rw [h]
  · rfl
theorem zOk.ow {a : zS} (h : zOk a) {b : Nat} (hb : b < zNb a) : zOw a b < zNd a := (h.2.2.2.2.2 b hb).1
theorem zOk.bu {a : zS} (h : zOk a) {b : Nat} (hb : b < zNb a) : zBu a b < 2 ^ zNf a := (h.2.2.2.2.2 b hb).2.2.1
theorem zOk.pr {a : zS} (h : zOk a) {b : Nat} (hb : b < zNb a) : zPr a b ≤ 999 := (h.2.2.2.2.2 b hb).2.2.2.1
theorem zOk.wo {a : zS} (h : zOk a) {b : Nat} (hb : b < zNb a) : zWo a b ≤ 999 := (h.2.2.2.2.2 b hb).2.2.2.2.1
theorem zOk.go {a : zS} (h : zOk a) {b : Nat} (hb : b < zNb a) : zGo a b ≤ 1 := (h.2.2.2.2.2 b hb).2.2.2.2.2
theorem zOk.rs {a : zS} (h : zOk a) {f : Nat} (hf : f < zNf a) : zRs a f ≤ 99 := h.2.2.2.2.1 f hf
theorem zp2_le {n k : Nat} (h : n ≤ k) : 2 ^ n ≤ 2 ^ k := Nat.pow_le_pow_right (by decide) h
theorem zOk.bu8 {a : zS} (h : zOk a) {b : Nat} (hb : b < zNb a) : zBu a b < 256 := by
  have h1 := h.bu hb
  have h2 : 2 ^ zNf a ≤ 2 ^ 8 := zp2_le h.1
  omega
theorem zSum_le {f : Nat → Nat} {c : Nat} : ∀ n, (∀ i, i < n → f i ≤ c) → zSum f n ≤ n * c
  | 0, _ => Nat.zero_le _
  | n + 1, h => by
    have h1 := zSum_le n (fun i hi => h i (by omega))
    have h2 := h n (by omega)
    unfold zSum
    rw [Nat.succ_mul]
    omega
theorem zRes_le {a : zS} (h : zOk a) (m : Nat) : zRes a m ≤ 792 := by
  have h1 : zRes a m ≤ zNf a * 99 := zSum_le _ (fun i hi => by
    show (if m.testBit i = true then zRs a i else 0) ≤ 99
    split
    · exact h.rs hi
    · exact Nat.zero_le _)
  have h2 := h.1
  omega
theorem zGn_bnd {a : zS} (h : zOk a) {b : Nat} (hb : b < zNb a) : -792 ≤ zGn a b ∧ zGn a b ≤ 999 := by
  have h1 := zRes_le h (zBu a b)
  have h2 := h.pr hb
  unfold zGn
  omega
theorem zG0_bnd {a : zS} (h : zOk a) (b : Nat) : -792 ≤ zG0 a b ∧ zG0 a b ≤ 999 := by
  unfold zG0
  split
  · next hb => exact zGn_bnd h hb
  · omega
theorem zn0 : nI 0 = 0 := rfl
theorem zn1 : nI 1 = 1 := rfl
end
section
/-- Integer.bitCount, as it counts -/
def zbc1 (x : Int32) : Int32 := x - (((x.toUInt32 >>> ((nI 1).toUInt32 &&& Int32.toUInt32 31)).toInt32) &&& (1431655765))
def zbc2 (x : Int32) : Int32 := (x &&& (858993459)) + (((x.toUInt32 >>> ((nI 2).toUInt32 &&& Int32.toUInt32 31)).toInt32) &&& (858993459))
def zbc3 (x : Int32) : Int32 := (x + ((x.toUInt32 >>> ((nI 4).toUInt32 &&& Int32.toUInt32 31)).toInt32)) &&& (252645135)
def zbc4 (x : Int32) : Int32 := x + ((x.toUInt32 >>> ((nI 8).toUInt32 &&& Int32.toUInt32 31)).toInt32)
def zbc5 (x : Int32) : Int32 := x + ((x.toUInt32 >>> ((nI 16).toUInt32 &&& Int32.toUInt32 31)).toInt32)
def zbc (x : Int32) : Int32 := zbc5 (zbc4 (zbc3 (zbc2 (zbc1 x)))) &&& nI 63
theorem zbc_all : (List.range 4096).all (fun n => decide (zbc (nI n) = nI (zPop n 12))) = true := by decide +kernel
theorem zbc_ok (n : Nat) (hn : n < 4096) : zbc (nI n) = nI (zPop n 12) := of_decide_eq_true (List.all_eq_true.mp zbc_all n (List.mem_range.mpr hn))
theorem zbc_raw (n : Nat) (hn : n < 4096) {v : Int32} (h : v = zbc (nI n)) : v = nI (zPop n 12) := h.trans (zbc_ok n hn)
set_option maxRecDepth 100000 in
set_option maxHeartbeats 4000000 in
theorem c_J6_bitCount_0f7a4  (l : Launch) (g : zG) (w : va_W) (n : Nat) (hn : n < 4096) : zM g l yJ6_bitCount_0f7a4 wsJ6_bitCount_0f7a4 { frames := 0, cells := 0, slots := 0, locals := 0 } [.int (nI n)] (w) (zPi (nI (zPop n 12)) (w)) 0 0 := by
  refine zM.of (cc := cJ6_bitCount_0f7a4) (nL := 1) (ret := (some .int)) (lv := [(0, .int (nI n))]) (by decide) rfl (Nat.le_of_ble_eq_true rfl) rfl ?_
  intro E C0 hi
  have C : zC g E cJ6_bitCount_0f7a4 RJ6 wsJ6_bitCount_0f7a4 1 (some .int) := C0
  refine z_iload_n C dJ6_bitCount_0f7a4_0 0 rfl ?_
  refine z_iload_n C dJ6_bitCount_0f7a4_1 0 rfl ?_
  refine z_iconst C (nI 1) dJ6_bitCount_0f7a4_2 (by decide) ?_
  refine z_iushr C dJ6_bitCount_0f7a4_3 (v := ((nI n).toUInt32 >>> ((nI 1).toUInt32 &&& Int32.toUInt32 31)).toInt32) rfl ?_
  refine z_ldcw C (1431655765) (C.w 1 rfl) dJ6_bitCount_0f7a4_4 ?_
  refine z_iand C dJ6_bitCount_0f7a4_7 (v := ((((nI n).toUInt32 >>> ((nI 1).toUInt32 &&& Int32.toUInt32 31)).toInt32) &&& (1431655765))) rfl ?_
  refine z_isub C dJ6_bitCount_0f7a4_8 (v := ((nI n) - ((((nI n).toUInt32 >>> ((nI 1).toUInt32 &&& Int32.toUInt32 31)).toInt32) &&& (1431655765)))) rfl ?_
  obtain ⟨x_9, e_9⟩ : ∃ y : Int32, y = ((nI n) - ((((nI n).toUInt32 >>> ((nI 1).toUInt32 &&& Int32.toUInt32 31)).toInt32) &&& (1431655765))) := ⟨_, rfl⟩
  refine zW.top e_9.symm ?_
  refine z_istore_n C dJ6_bitCount_0f7a4_9 (by decide) [(0, .int x_9)] rfl ?_
  refine z_iload_n C dJ6_bitCount_0f7a4_10 0 rfl ?_
  refine z_ldcw C (858993459) (C.w 2 rfl) dJ6_bitCount_0f7a4_11 ?_
  refine z_iand C dJ6_bitCount_0f7a4_14 (v := (x_9 &&& (858993459))) rfl ?_
  refine z_iload_n C dJ6_bitCount_0f7a4_15 0 rfl ?_
  refine z_iconst C (nI 2) dJ6_bitCount_0f7a4_16 (by decide) ?_
  refine z_iushr C dJ6_bitCount_0f7a4_17 (v := (x_9.toUInt32 >>> ((nI 2).toUInt32 &&& Int32.toUInt32 31)).toInt32) rfl ?_
  refine z_ldcw C (858993459) (C.w 2 rfl) dJ6_bitCount_0f7a4_18 ?_
  refine z_iand C dJ6_bitCount_0f7a4_21 (v := (((x_9.toUInt32 >>> ((nI 2).toUInt32 &&& Int32.toUInt32 31)).toInt32) &&& (858993459))) rfl ?_
  refine z_iadd C dJ6_bitCount_0f7a4_22 (v := ((x_9 &&& (858993459)) + (((x_9.toUInt32 >>> ((nI 2).toUInt32 &&& Int32.toUInt32 31)).toInt32) &&& (858993459)))) rfl ?_
  obtain ⟨x_23, e_23⟩ : ∃ y : Int32, y = ((x_9 &&& (858993459)) + (((x_9.toUInt32 >>> ((nI 2).toUInt32 &&& Int32.toUInt32 31)).toInt32) &&& (858993459))) := ⟨_, rfl⟩
  refine zW.top e_23.symm ?_
  refine z_istore_n C dJ6_bitCount_0f7a4_23 (by decide) [(0, .int x_23)] rfl ?_
  refine z_iload_n C dJ6_bitCount_0f7a4_24 0 rfl ?_
  refine z_iload_n C dJ6_bitCount_0f7a4_25 0 rfl ?_
  refine z_iconst C (nI 4) dJ6_bitCount_0f7a4_26 (by decide) ?_
  refine z_iushr C dJ6_bitCount_0f7a4_27 (v := (x_23.toUInt32 >>> ((nI 4).toUInt32 &&& Int32.toUInt32 31)).toInt32) rfl ?_
  refine z_iadd C dJ6_bitCount_0f7a4_28 (v := (x_23 + ((x_23.toUInt32 >>> ((nI 4).toUInt32 &&& Int32.toUInt32 31)).toInt32))) rfl ?_
  refine z_ldcw C (252645135) (C.w 3 rfl) dJ6_bitCount_0f7a4_29 ?_
  refine z_iand C dJ6_bitCount_0f7a4_32 (v := ((x_23 + ((x_23.toUInt32 >>> ((nI 4).toUInt32 &&& Int32.toUInt32 31)).toInt32)) &&& (252645135))) rfl ?_
  obtain ⟨x_33, e_33⟩ : ∃ y : Int32, y = ((x_23 + ((x_23.toUInt32 >>> ((nI 4).toUInt32 &&& Int32.toUInt32 31)).toInt32)) &&& (252645135)) := ⟨_, rfl⟩
  refine zW.top e_33.symm ?_
  refine z_istore_n C dJ6_bitCount_0f7a4_33 (by decide) [(0, .int x_33)] rfl ?_
  refine z_iload_n C dJ6_bitCount_0f7a4_34 0 rfl ?_
  refine z_iload_n C dJ6_bitCount_0f7a4_35 0 rfl ?_
  refine z_bipush C (nI 8) dJ6_bitCount_0f7a4_36 (by decide) ?_
  refine z_iushr C dJ6_bitCount_0f7a4_38 (v := (x_33.toUInt32 >>> ((nI 8).toUInt32 &&& Int32.toUInt32 31)).toInt32) rfl ?_
  refine z_iadd C dJ6_bitCount_0f7a4_39 (v := (x_33 + ((x_33.toUInt32 >>> ((nI 8).toUInt32 &&& Int32.toUInt32 31)).toInt32))) rfl ?_
  obtain ⟨x_40, e_40⟩ : ∃ y : Int32, y = (x_33 + ((x_33.toUInt32 >>> ((nI 8).toUInt32 &&& Int32.toUInt32 31)).toInt32)) := ⟨_, rfl⟩
  refine zW.top e_40.symm ?_
  refine z_istore_n C dJ6_bitCount_0f7a4_40 (by decide) [(0, .int x_40)] rfl ?_
  refine z_iload_n C dJ6_bitCount_0f7a4_41 0 rfl ?_
  refine z_iload_n C dJ6_bitCount_0f7a4_42 0 rfl ?_
  refine z_bipush C (nI 16) dJ6_bitCount_0f7a4_43 (by decide) ?_
  refine z_iushr C dJ6_bitCount_0f7a4_45 (v := (x_40.toUInt32 >>> ((nI 16).toUInt32 &&& Int32.toUInt32 31)).toInt32) rfl ?_
  refine z_iadd C dJ6_bitCount_0f7a4_46 (v := (x_40 + ((x_40.toUInt32 >>> ((nI 16).toUInt32 &&& Int32.toUInt32 31)).toInt32))) rfl ?_
  obtain ⟨x_47, e_47⟩ : ∃ y : Int32, y = (x_40 + ((x_40.toUInt32 >>> ((nI 16).toUInt32 &&& Int32.toUInt32 31)).toInt32)) := ⟨_, rfl⟩
  refine zW.top e_47.symm ?_
  refine z_istore_n C dJ6_bitCount_0f7a4_47 (by decide) [(0, .int x_47)] rfl ?_
  refine z_iload_n C dJ6_bitCount_0f7a4_48 0 rfl ?_
  refine z_bipush C (nI 63) dJ6_bitCount_0f7a4_49 (by decide) ?_
  refine z_iand C dJ6_bitCount_0f7a4_51 (v := (x_47 &&& (nI 63))) rfl ?_
  exact z_iretP C dJ6_bitCount_0f7a4_52 (by subst e_9 e_23 e_33 e_40 e_47; exact zbc_ok n hn) rfl
set_option maxRecDepth 100000 in
set_option maxHeartbeats 4000000 in
theorem c_X2_hasField  (l : Launch) (g : zG) (w : va_W) (m f : Nat) (hf : f < 31) : zM g l yX2_hasField wsX2_hasField { frames := 0, cells := 0, slots := 0, locals := 0 } [.int (nI m), .int (nI f)] (w) (zPi (bI (m.testBit f)) (w)) 0 0 := by
  refine zM.of (cc := cX2_hasField) (nL := 2) (ret := (some .boolean)) (lv := [(0, .int (nI m)), (1, .int (nI f))]) (by decide) rfl (Nat.le_of_ble_eq_true rfl) rfl ?_
  intro E C0 hi
  have C : zC g E cX2_hasField RX2 wsX2_hasField 2 (some .boolean) := C0
  refine z_iload_n C dX2_hasField_0 0 rfl ?_
  refine z_iconst C (nI 1) dX2_hasField_1 (by decide) ?_
  refine z_iload_n C dX2_hasField_2 1 rfl ?_
  refine z_ishl C dX2_hasField_3 (v := nI (2 ^ f)) (zshl_1N (by omega)) ?_
  refine z_iand C dX2_hasField_4 (v := nI (m &&& (2 ^ f))) (zand_NN m (2 ^ f)) ?_
  refine z_if_eq C 12 dX2_hasField_5 (by decide) (zbit_0 (by omega)) (fun c_5 => ?_) (fun c_5 => ?_)
  · skip
    refine z_iconst C (nI 0) dX2_hasField_12 (by decide) ?_
    exact z_zretP C dX2_hasField_13 (by simp_all [bI, zn0, zn1]) rfl
  · skip
    refine z_iconst C (nI 1) dX2_hasField_8 (by decide) ?_
    refine z_goto C 13 dX2_hasField_9 (by decide) ?_
    exact z_zretP C dX2_hasField_13 (by simp_all [bI, zn0, zn1]) rfl
theorem inX0_has_X0 : ∀ w ∈ wsX00, w ∈ wsX0_has := fun w h => List.mem_cons_of_mem _ (List.mem_append_right _ (h))
set_option maxRecDepth 100000 in
set_option maxHeartbeats 4000000 in
theorem c_X0_has (l : Launch) (g : zG) (q : Nat → Nat) (a : zS) (bs : Nat → Int × Nat) (wb pd gw : Nat → Nat → Int) (z : Nat) (hz : z < 3) (b : Nat) (hb : b < 31) : zM g l yX0_has wsX0_has { frames := 0, cells := 0, slots := 0, locals := 0 } [.ref (q (9 + z)), .int (nI b)] (wB g q a (zG0 a) bs wb pd gw) (zPi (bI ((bs z).2.testBit b)) (wB g q a (zG0 a) bs wb pd gw)) 0 0 := by
  refine zM.of (cc := cX0_has) (nL := 2) (ret := (some .boolean)) (lv := [(0, .ref (q (9 + z))), (1, .int (nI b))]) (by decide) rfl (Nat.le_of_ble_eq_true rfl) rfl ?_
  intro E C0 hi
  have C : zC g E cX0_has RX0 wsX0_has 2 (some .boolean) := C0
  refine z_aload_n C dX0_has_0 0 rfl ?_
  refine z_get C inX0_has_X0 (9 + z) (wB_bs (z := z) (by omega)) rfl 1 (by decide) (C.w 1 rfl) rfl dX0_has_1 ?_
  refine z_iconst C (nI 1) dX0_has_4 (by decide) ?_
  refine z_iload_n C dX0_has_5 1 rfl ?_
  refine z_ishl C dX0_has_6 (v := nI (2 ^ b)) (zshl_1N (by omega)) ?_
  refine z_iand C dX0_has_7 (v := nI (((bs z).2) &&& (2 ^ b))) (zand_NN ((bs z).2) (2 ^ b)) ?_
  refine z_if_eq C 15 dX0_has_8 (by decide) (zbit_0 (by omega)) (fun c_8 => ?_) (fun c_8 => ?_)
  · skip
    refine z_iconst C (nI 0) dX0_has_15 (by decide) ?_
    exact z_zretP C dX0_has_16 (by simp_all [bI, zn0, zn1]) rfl
  · skip
    refine z_iconst C (nI 1) dX0_has_11 (by decide) ?_
    refine z_goto C 16 dX0_has_12 (by decide) ?_
    exact z_zretP C dX0_has_16 (by simp_all [bI, zn0, zn1]) rfl
theorem inX0_clear_X0 : ∀ w ∈ wsX00, w ∈ wsX0_clear := fun w h => List.mem_cons_of_mem _ (List.mem_append_right _ (h))
set_option maxRecDepth 100000 in
set_option maxHeartbeats 4000000 in
theorem c_X0_clear (l : Launch) (g : zG) (q : Nat → Nat) (a : zS) (bs : Nat → Int × Nat) (wb pd gw : Nat → Nat → Int) (z : Nat) (hz : z < 3) : zM g l yX0_clear wsX0_clear { frames := 0, cells := 0, slots := 0, locals := 0 } [.ref (q (9 + z))] (wB g q a (zG0 a) bs wb pd gw) (zPv (wB g q a (zG0 a) (va_up bs z (0, 0)) wb pd gw)) 0 0 := by
  refine zM.of (cc := cX0_clear) (nL := 1) (ret := none) (lv := [(0, .ref (q (9 + z)))]) (by decide) rfl (Nat.le_of_ble_eq_true rfl) rfl ?_
  intro E C0 hi
  have C : zC g E cX0_clear RX0 wsX0_clear 1 none := C0
  refine z_aload_n C dX0_clear_0 0 rfl ?_
  refine z_iconst C (nI 0) dX0_clear_1 (by decide) ?_
  refine z_put C inX0_clear_X0 tyX0_ok nmX0 (9 + z) (wB_bs (z := z) (by omega)) rfl 0 (by decide) (C.w 1 rfl) rfl (tyX0_ok 0 (by decide)) rfl rfl (Nat.le_of_ble_eq_true rfl) dX0_clear_2 (wB_set_bs1 (by omega) 0) ?_
  refine z_aload_n C dX0_clear_5 0 rfl ?_
  refine z_iconst C (nI 0) dX0_clear_6 (by decide) ?_
  refine z_put C inX0_clear_X0 tyX0_ok nmX0 (9 + z) (wB_bs (z := z) (by omega)) rfl 1 (by decide) (C.w 2 rfl) rfl (tyX0_ok 1 (by decide)) rfl rfl (Nat.le_of_ble_eq_true rfl) dX0_clear_7 (wB_set_bs2 (by omega) 0) ?_
  exact z_vretP C dX0_clear_10 (by simp_all [bx_uu, va_up_self])
theorem inX0_isBeatenBy_X0 : ∀ w ∈ wsX00, w ∈ wsX0_isBeatenBy := fun w h => List.mem_cons_of_mem _ (List.mem_append_right _ (h))
set_option maxRecDepth 100000 in
set_option maxHeartbeats 4000000 in
theorem c_X0_isBeatenBy (l : Launch) (g : zG) (q : Nat → Nat) (a : zS) (bs : Nat → Int × Nat) (wb pd gw : Nat → Nat → Int) (z : Nat) (hz : z < 3) (og : Int) (on : Nat) (h1 : zB31 og) (h2 : zB31 (bs z).1) (h3 : on < 4096) (h4 : (bs z).2 < 4096) : zM g l yX0_isBeatenBy wsX0_isBeatenBy { frames := 1, cells := 0, slots := 0, locals := 20 } [.ref (q (9 + z)), .int (iZ og), .int (nI on)] (wB g q a (zG0 a) bs wb pd gw) (zPi (bI (zBt (bs z) (og, on))) (wB g q a (zG0 a) bs wb pd gw)) 0 0 := by
  refine zM.of (cc := cX0_isBeatenBy) (nL := 5) (ret := (some .boolean)) (lv := [(0, .ref (q (9 + z))), (1, .int (iZ og)), (2, .int (nI on))]) (by decide) rfl (Nat.le_of_ble_eq_true rfl) rfl ?_
  intro E C0 hi
  have C : zC g E cX0_isBeatenBy RX0 wsX0_isBeatenBy 5 (some .boolean) := C0
  unfold zB31 at h1 h2
  have p1 := zPop_le on 12
  have p2 := zPop_le (bs z).2 12
  refine z_iload_n C dX0_isBeatenBy_0 1 rfl ?_
  refine z_aload_n C dX0_isBeatenBy_1 0 rfl ?_
  refine z_get C inX0_isBeatenBy_X0 (9 + z) (wB_bs (z := z) (by omega)) rfl 0 (by decide) (C.w 1 rfl) rfl dX0_isBeatenBy_2 ?_
  refine z_icmp_eq C 22 dX0_isBeatenBy_5 (by decide) (zeq_ZZ (x := og) (y := ((bs z).1)) (by unfold zB31; omega) (by unfold zB31; omega)) (fun c_5 => ?_) (fun c_5 => ?_)
  · skip
    refine z_aload_n C dX0_isBeatenBy_22 0 rfl ?_
    refine z_get C inX0_isBeatenBy_X0 (9 + z) (wB_bs (z := z) (by omega)) rfl 1 (by decide) (C.w 2 rfl) rfl dX0_isBeatenBy_23 ?_
    refine z_callS C (c_J6_bitCount_0f7a4 l g (wB g q a (zG0 a) bs wb pd gw) ((bs z).2) (by omega)) (va_cwS 1 C.ts gX0_isBeatenBy_J6_bitCount_0f7a4 rfl rfl rfl (by decide +kernel) ⟨Nat.le_of_ble_eq_true rfl, Nat.le_of_ble_eq_true rfl⟩) rfl rfl (Nat.le_of_ble_eq_true rfl) dX0_isBeatenBy_26 ⟨Nat.zero_le _, Nat.zero_le _⟩ (z_i ?_)
    refine z_istore_n C dX0_isBeatenBy_29 (by decide) [(3, .int (nI (zPop ((bs z).2) 12))), (0, .ref (q (9 + z))), (1, .int (iZ og)), (2, .int (nI on))] rfl ?_
    refine z_iload_n C dX0_isBeatenBy_30 3 rfl ?_
    refine z_callS C (c_J6_bitCount_0f7a4 l g (wB g q a (zG0 a) bs wb pd gw) on (by omega)) (va_cwS 1 C.ts gX0_isBeatenBy_J6_bitCount_0f7a4 rfl rfl rfl (by decide +kernel) ⟨Nat.le_of_ble_eq_true rfl, Nat.le_of_ble_eq_true rfl⟩) rfl rfl (Nat.le_of_ble_eq_true rfl) dX0_isBeatenBy_31 ⟨Nat.zero_le _, Nat.zero_le _⟩ (z_i ?_)
    refine z_istore C dX0_isBeatenBy_34 (by decide) [(4, .int (nI (zPop on 12))), (3, .int (nI (zPop ((bs z).2) 12))), (0, .ref (q (9 + z))), (1, .int (iZ og)), (2, .int (nI on))] rfl ?_
    refine z_iload C dX0_isBeatenBy_36 0 rfl ?_
    refine z_iload_n C dX0_isBeatenBy_38 1 rfl ?_
    refine z_icmp_eq C 54 dX0_isBeatenBy_39 (by decide) (zeq_NN (by omega) (by omega)) (fun c_39 => ?_) (fun c_39 => ?_)
    · skip
      refine z_iload_n C dX0_isBeatenBy_54 4 rfl ?_
      refine z_aload_n C dX0_isBeatenBy_55 2 rfl ?_
      refine z_get C inX0_isBeatenBy_X0 (9 + z) (wB_bs (z := z) (by omega)) rfl 1 (by decide) (C.w 2 rfl) rfl dX0_isBeatenBy_56 ?_
      refine z_icmp_ge C 66 dX0_isBeatenBy_59 (by decide) (zle_NN (by omega) (by omega)) (fun c_59 => ?_) (fun c_59 => ?_)
      · skip
        refine z_iconst C (nI 0) dX0_isBeatenBy_66 (by decide) ?_
        exact z_zretP C dX0_isBeatenBy_67 (by simp_all [bI, zn0, zn1, zBt]) rfl
      · skip
        refine z_iconst C (nI 1) dX0_isBeatenBy_62 (by decide) ?_
        refine z_goto C 67 dX0_isBeatenBy_63 (by decide) ?_
        exact z_zretP C dX0_isBeatenBy_67 (by simp_all [bI, zn0, zn1, zBt]) rfl
    · skip
      refine z_iload C dX0_isBeatenBy_42 0 rfl ?_
      refine z_iload_n C dX0_isBeatenBy_44 1 rfl ?_
      refine z_icmp_le C 52 dX0_isBeatenBy_45 (by decide) (zle_NN (by omega) (by omega)) (fun c_45 => ?_) (fun c_45 => ?_)
      · skip
        refine z_iconst C (nI 0) dX0_isBeatenBy_52 (by decide) ?_
        exact z_zretP C dX0_isBeatenBy_53 (by simp_all [bI, zn0, zn1, zBt]) rfl
      · skip
        refine z_iconst C (nI 1) dX0_isBeatenBy_48 (by decide) ?_
        refine z_goto C 53 dX0_isBeatenBy_49 (by decide) ?_
        exact z_zretP C dX0_isBeatenBy_53 (by simp_all [bI, zn0, zn1, zBt]) rfl
  · skip
    refine z_iload_n C dX0_isBeatenBy_8 1 rfl ?_
    refine z_aload_n C dX0_isBeatenBy_9 0 rfl ?_
    refine z_get C inX0_isBeatenBy_X0 (9 + z) (wB_bs (z := z) (by omega)) rfl 0 (by decide) (C.w 1 rfl) rfl dX0_isBeatenBy_10 ?_
    refine z_icmp_le C 20 dX0_isBeatenBy_13 (by decide) (zle_ZZ (x := og) (y := ((bs z).1)) (by unfold zB31; omega) (by unfold zB31; omega)) (fun c_13 => ?_) (fun c_13 => ?_)
    · skip
      refine z_iconst C (nI 0) dX0_isBeatenBy_20 (by decide) ?_
      exact z_zretP C dX0_isBeatenBy_21 (by simp_all [bI, zn0, zn1, zBt]) rfl
    · skip
      refine z_iconst C (nI 1) dX0_isBeatenBy_16 (by decide) ?_
      refine z_goto C 21 dX0_isBeatenBy_17 (by decide) ?_
      exact z_zretP C dX0_isBeatenBy_21 (by simp_all [bI, zn0, zn1, zBt]) rfl
theorem inX0_consider_X0 : ∀ w ∈ wsX00, w ∈ wsX0_consider := fun w h => List.mem_cons_of_mem _ (List.mem_append_right _ (h))
set_option maxRecDepth 100000 in
set_option maxHeartbeats 4000000 in
theorem c_X0_consider (l : Launch) (g : zG) (q : Nat → Nat) (a : zS) (bs : Nat → Int × Nat) (wb pd gw : Nat → Nat → Int) (z : Nat) (hz : z < 3) (og : Int) (on : Nat) (h1 : zB31 og) (h2 : zB31 (bs z).1) (h3 : on < 4096) (h4 : (bs z).2 < 4096) : zM g l yX0_consider wsX0_consider { frames := 2, cells := 0, slots := 0, locals := 44 } [.ref (q (9 + z)), .int (iZ og), .int (nI on)] (wB g q a (zG0 a) bs wb pd gw) (zPv (wB g q a (zG0 a) (va_up bs z (if zBt (bs z) (og, on) = true then (og, on) else bs z)) wb pd gw)) 0 0 := by
  refine zM.of (cc := cX0_consider) (nL := 3) (ret := none) (lv := [(0, .ref (q (9 + z))), (1, .int (iZ og)), (2, .int (nI on))]) (by decide) rfl (Nat.le_of_ble_eq_true rfl) rfl ?_
  intro E C0 hi
  have C : zC g E cX0_consider RX0 wsX0_consider 3 none := C0
  refine z_aload_n C dX0_consider_0 0 rfl ?_
  refine z_iload_n C dX0_consider_1 1 rfl ?_
  refine z_iload_n C dX0_consider_2 2 rfl ?_
  refine z_callV C (c_X0_isBeatenBy l g q a bs wb pd gw z hz og on h1 h2 h3 h4) (cwV 2 C.ts gX0_consider_X0_isBeatenBy rfl rfl rfl (by decide +kernel) ⟨Nat.le_of_ble_eq_true rfl, Nat.le_of_ble_eq_true rfl⟩) (wB_bs (z := z) (by omega)) rfl rfl rfl (Nat.le_of_ble_eq_true rfl) dX0_consider_3 ⟨Nat.zero_le _, Nat.zero_le _⟩ (z_i ?_)
  refine z_if_eq C 19 dX0_consider_6 (by decide) (zeq_B0 _) (fun c_6 => ?_) (fun c_6 => ?_)
  · skip
    exact z_vretP C dX0_consider_19 (by simp_all [bx_uu, zup_id, va_up_self])
  · skip
    refine z_aload_n C dX0_consider_9 0 rfl ?_
    refine z_iload_n C dX0_consider_10 1 rfl ?_
    refine z_put C inX0_consider_X0 tyX0_ok nmX0 (9 + z) (wB_bs (z := z) (by omega)) rfl 0 (by decide) (C.w 1 rfl) rfl (tyX0_ok 0 (by decide)) rfl rfl (Nat.le_of_ble_eq_true rfl) dX0_consider_11 (wB_set_bs1 (by omega) og) ?_
    refine z_aload_n C dX0_consider_14 0 rfl ?_
    refine z_iload_n C dX0_consider_15 2 rfl ?_
    refine z_put C inX0_consider_X0 tyX0_ok nmX0 (9 + z) (wB_bs (z := z) (by omega)) rfl 1 (by decide) (C.w 2 rfl) rfl (tyX0_ok 1 (by decide)) rfl rfl (Nat.le_of_ble_eq_true rfl) dX0_consider_16 (wB_set_bs2 (by omega) on) ?_
    exact z_vretP C dX0_consider_19 (by simp_all [bx_uu, zup_id, va_up_self])
end
section
def zCnt (p : Nat → Bool) : Nat → Nat
  | 0 => 0
  | n + 1 => zCnt p n + (if p n = true then 1 else 0)
/-- the first place from i on, of k places, where p holds; -1 without one -/
def zFst (p : Nat → Bool) (i : Nat) : Nat → Int
  | 0 => -1
  | k + 1 => if p i = true then (i : Int) else zFst p (i + 1) k
def zFil (f : Nat → Int) (n : Nat) (x : Int) : Nat → Int := fun j => if j < n then x else f j
theorem zFil_up (f : Nat → Int) (i : Nat) (x : Int) : va_up (zFil f i x) i x = zFil f (i + 1) x := by
  funext j
  simp only [va_up, zFil]
  by_cases h : j = i
  · subst h
    rw [if_pos rfl, if_pos (by omega)]
  · rw [if_neg h]
    by_cases h2 : j < i
    · rw [if_pos h2, if_pos (by omega)]
    · rw [if_neg h2, if_neg (by omega)]
theorem zFil_0 (f : Nat → Int) (x : Int) : zFil f 0 x = f := by
  funext j
  simp [zFil]
theorem zset_get {w : va_W} {k : Nat} {e e2 : Nat × va_E} (h : w[k]? = some e) : (w.set k e2)[k]? = some e2 := by
  rw [List.getElem?_set_self (List.getElem?_eq_some_iff.mp h).1]
theorem zset_self {w : va_W} {k : Nat} {e : Nat × va_E} (h : w[k]? = some e) : w = w.set k e := by
  obtain ⟨h1, h2⟩ := List.getElem?_eq_some_iff.mp h
  rw [← h2, List.set_getElem_self]
theorem zset_put {g : zG} (w : va_W) (k adr : Nat) {n : Nat} {e1 : va_E} (f : Nat → Int) (i : Nat) (x : Int) : (w.set k (adr, e1)).set k (adr, .inl (zI g, n, .inl (upd (fun j => iZ (f j)) i (iZ x)))) = w.set k (adr, .inl (zI g, n, .inl (fun j => iZ (va_up f i x j)))) := by
  rw [zup_Z, List.set_set]
/-- how many of a bidder's bids are not withdrawn -/
def zLof (a : zS) (d : Nat) : Nat := zCnt (fun b => decide (zOw a b = d) && zGo a b == 0) (zNb a)
section WBF
variable {g : zG} {q : Nat → Nat} {a : zS} {G : Nat → Int} {bs : Nat → Int × Nat} {wb pd gw : Nat → Nat → Int}
theorem wB_fil_wb {z : Nat} (hz : z < 2) (f : Nat → Int) : (wB g q a G bs wb pd gw).set (14 + z) (q (14 + z), .inl (zI g, 5, .inl (fun j => iZ (f j)))) = wB g q a G bs (va_up wb z f) pd gw := by
  match z, hz with
  | 0, _ => rfl
  | 1, _ => rfl
theorem wB_fil_pd {z : Nat} (hz : z < 2) (f : Nat → Int) : (wB g q a G bs wb pd gw).set (16 + z) (q (16 + z), .inl (zI g, 5, .inl (fun j => iZ (f j)))) = wB g q a G bs wb (va_up pd z f) gw := by
  match z, hz with
  | 0, _ => rfl
  | 1, _ => rfl
theorem wB_fil_gw {z : Nat} (hz : z < 2) (f : Nat → Int) : (wB g q a G bs wb pd gw).set (18 + z) (q (18 + z), .inl (zI g, 5, .inl (fun j => iZ (f j)))) = wB g q a G bs wb pd (va_up gw z f) := by
  match z, hz with
  | 0, _ => rfl
  | 1, _ => rfl
end WBF
theorem inX2_reservesOf_X2 : ∀ w ∈ wsX20, w ∈ wsX2_reservesOf := fun w h => List.mem_cons_of_mem _ (List.mem_append_right _ (h))
set_option maxRecDepth 100000 in
set_option maxHeartbeats 4000000 in
theorem c_X2_reservesOf (l : Launch) (g : zG) (q : Nat → Nat) (a : zS) (bs : Nat → Int × Nat) (wb pd gw : Nat → Nat → Int) (G : Nat → Int) (ha : zOk a) (m : Nat) : zM g l yX2_reservesOf wsX2_reservesOf { frames := 1, cells := 0, slots := 0, locals := 21 } [.ref (q 0), .int (nI m)] (wB g q a G bs wb pd gw) (zPi (nI (zRes a m)) (wB g q a G bs wb pd gw)) 0 0 := by
  refine zM.of (cc := cX2_reservesOf) (nL := 4) (ret := (some .int)) (lv := [(0, .ref (q 0)), (1, .int (nI m))]) (by decide) rfl (Nat.le_of_ble_eq_true rfl) rfl ?_
  intro E C0 hi
  have C : zC g E cX2_reservesOf RX2 wsX2_reservesOf 4 (some .int) := C0
  obtain ⟨hnf, hnd, hnb, hou, hrs, hbd⟩ := id ha
  refine z_iconst C (nI 0) dX2_reservesOf_0 (by decide) ?_
  refine z_istore_n C dX2_reservesOf_1 (by decide) [(2, .int (nI 0)), (0, .ref (q 0)), (1, .int (nI m))] rfl ?_
  refine z_iconst C (nI 0) dX2_reservesOf_2 (by decide) ?_
  refine z_istore_n C dX2_reservesOf_3 (by decide) [(3, .int (nI 0)), (2, .int (nI 0)), (0, .ref (q 0)), (1, .int (nI m))] rfl ?_
  refine zW.pick (lv' := [(0, .ref (q 0)), (1, .int (nI m)), (2, .int (nI 0)), (3, .int (nI 0))]) [2, 3, 1, 0] rfl ?_
  have hlp4 : ∀ (k i : Nat), i + k = zNf a → zW g l ({ frames := 1, cells := 0, slots := 0, locals := 21 }) E (zMQ g E (zPi (nI (zRes a m)) (wB g q a G bs wb pd gw)) 0 0) 4 0 0 (wB g q a G bs wb pd gw) [(0, .ref (q 0)), (1, .int (nI m)), (2, .int (nI (zSum (fun f => if m.testBit f = true then zRs a f else 0) i))), (3, .int (nI i))] [] 4 := by
    intro k
    induction k with
    | zero =>
      intro i hik
      refine z_iload_n C dX2_reservesOf_4 3 rfl ?_
      refine z_aload_n C dX2_reservesOf_5 0 rfl ?_
      refine z_get C inX2_reservesOf_X2 0 wB_o rfl 1 (by decide) (C.w 1 rfl) rfl dX2_reservesOf_6 ?_
      refine z_icmp_ge C 35 dX2_reservesOf_9 (by decide) (zle_NN (by omega) (by omega)) (fun c_9 => ?_) (fun h9 => absurd (by omega) h9)
      refine z_iload_n C dX2_reservesOf_35 2 rfl ?_
      exact z_iretP C dX2_reservesOf_36 (by rw [show i = zNf a by omega]; rfl) rfl
    | succ k ih4 =>
      intro i hik
      refine z_iload_n C dX2_reservesOf_4 3 rfl ?_
      refine z_aload_n C dX2_reservesOf_5 0 rfl ?_
      refine z_get C inX2_reservesOf_X2 0 wB_o rfl 1 (by decide) (C.w 1 rfl) rfl dX2_reservesOf_6 ?_
      refine z_icmp_ge C 35 dX2_reservesOf_9 (by decide) (zle_NN (by omega) (by omega)) (fun h9 => absurd h9 (by omega)) (fun c_9 => ?_)
      refine z_iload_n C dX2_reservesOf_12 1 rfl ?_
      refine z_iload_n C dX2_reservesOf_13 3 rfl ?_
      refine z_callS C (c_X2_hasField l g (wB g q a G bs wb pd gw) m i (by omega)) (va_cwS 2 C.ts gX2_reservesOf_X2_hasField rfl rfl rfl (by decide +kernel) ⟨Nat.le_of_ble_eq_true rfl, Nat.le_of_ble_eq_true rfl⟩) rfl rfl (Nat.le_of_ble_eq_true rfl) dX2_reservesOf_14 ⟨Nat.zero_le _, Nat.zero_le _⟩ (z_i ?_)
      refine z_if_eq C 29 dX2_reservesOf_17 (by decide) (zeq_B0 _) (fun c_17 => ?_) (fun c_17 => ?_)
      · skip
        refine z_iinc C dX2_reservesOf_29 3 (nI (i + 1)) rfl (nI_add i 1) (by decide) [(3, .int (nI (i + 1))), (0, .ref (q 0)), (1, .int (nI m)), (2, .int (nI (zSum (fun f => if m.testBit f = true then zRs a f else 0) i)))] rfl ?_
        refine z_goto C 4 dX2_reservesOf_32 (by decide) ?_
        refine zW.pick (lv' := [(0, .ref (q 0)), (1, .int (nI m)), (2, .int (nI (zSum (fun f => if m.testBit f = true then zRs a f else 0) i))), (3, .int (nI (i + 1)))]) [1, 2, 3, 0] rfl ?_
        refine zW.lve (lv' := [(0, .ref (q 0)), (1, .int (nI m)), (2, .int (nI (zSum (fun f => if m.testBit f = true then zRs a f else 0) (i + 1)))), (3, .int (nI (i + 1)))]) (by simp [zSum, c_17]) ?_
        exact ih4 (i + 1) (by omega)
      · skip
        refine z_iload_n C dX2_reservesOf_20 2 rfl ?_
        refine z_aload_n C dX2_reservesOf_21 0 rfl ?_
        refine z_get C inX2_reservesOf_X2 0 wB_o rfl 0 (by decide) (C.w 2 rfl) rfl dX2_reservesOf_22 ?_
        refine z_iload_n C dX2_reservesOf_25 3 rfl ?_
        refine z_ialdN C 1 wB_rs (by omega) (by decide) dX2_reservesOf_26 (v := nI (zRs a i)) rfl ?_
        have f_26b := (ha.rs (f := i) (by omega))
        refine z_iadd C dX2_reservesOf_27 (v := nI ((zSum (fun f => if m.testBit f = true then zRs a f else 0) i) + (zRs a i))) (nI_add (zSum (fun f => if m.testBit f = true then zRs a f else 0) i) (zRs a i)) ?_
        refine z_istore_n C dX2_reservesOf_28 (by decide) [(2, .int (nI ((zSum (fun f => if m.testBit f = true then zRs a f else 0) i) + (zRs a i)))), (0, .ref (q 0)), (1, .int (nI m)), (3, .int (nI i))] rfl ?_
        refine z_iinc C dX2_reservesOf_29 3 (nI (i + 1)) rfl (nI_add i 1) (by decide) [(3, .int (nI (i + 1))), (2, .int (nI ((zSum (fun f => if m.testBit f = true then zRs a f else 0) i) + (zRs a i)))), (0, .ref (q 0)), (1, .int (nI m))] rfl ?_
        refine z_goto C 4 dX2_reservesOf_32 (by decide) ?_
        refine zW.pick (lv' := [(0, .ref (q 0)), (1, .int (nI m)), (2, .int (nI ((zSum (fun f => if m.testBit f = true then zRs a f else 0) i) + (zRs a i)))), (3, .int (nI (i + 1)))]) [2, 3, 1, 0] rfl ?_
        refine zW.lve (lv' := [(0, .ref (q 0)), (1, .int (nI m)), (2, .int (nI (zSum (fun f => if m.testBit f = true then zRs a f else 0) (i + 1)))), (3, .int (nI (i + 1)))]) (by simp [zSum, c_17]) ?_
        exact ih4 (i + 1) (by omega)
  exact hlp4 (zNf a) 0 (by omega)
theorem inX2_counts_X2 : ∀ w ∈ wsX20, w ∈ wsX2_counts := fun w h => List.mem_cons_of_mem _ (List.mem_append_right _ (h))
set_option maxRecDepth 100000 in
set_option maxHeartbeats 4000000 in
theorem c_X2_counts (l : Launch) (g : zG) (q : Nat → Nat) (a : zS) (bs : Nat → Int × Nat) (wb pd gw : Nat → Nat → Int) (ha : zOk a) (b : Nat) (hb : b < zNb a) : zM g l yX2_counts wsX2_counts { frames := 0, cells := 0, slots := 0, locals := 0 } [.ref (q 0), .int (nI b)] (wB g q a (zG0 a) bs wb pd gw) (zPi (bI (zCn a (zOu a) b)) (wB g q a (zG0 a) bs wb pd gw)) 0 0 := by
  refine zM.of (cc := cX2_counts) (nL := 2) (ret := (some .boolean)) (lv := [(0, .ref (q 0)), (1, .int (nI b))]) (by decide) rfl (Nat.le_of_ble_eq_true rfl) rfl ?_
  intro E C0 hi
  have C : zC g E cX2_counts RX2 wsX2_counts 2 (some .boolean) := C0
  obtain ⟨hnf, hnd, hnb, hou, hrs, hbd⟩ := id ha
  refine z_aload_n C dX2_counts_0 0 rfl ?_
  refine z_get C inX2_counts_X2 0 wB_o rfl 9 (by decide) (C.w 1 rfl) rfl dX2_counts_1 ?_
  refine z_iload_n C dX2_counts_4 1 rfl ?_
  refine z_zaldN C 8 wB_go (by omega) (by decide) dX2_counts_5 (v := nI (zGo a b)) rfl ?_
  have f_5b := (ha.go (b := b) (by omega))
  refine z_if_ne C 36 dX2_counts_6 (by decide) (zeq_N0 (by omega)) (fun c_6 => ?_) (fun c_6 => ?_)
  · skip
    refine z_iconst C (nI 0) dX2_counts_36 (by decide) ?_
    exact z_zretP C dX2_counts_37 (by simp_all [bI, zn0, zn1, zCn, zG0, zIn]) rfl
  · skip
    refine z_aload_n C dX2_counts_9 0 rfl ?_
    refine z_get C inX2_counts_X2 0 wB_o rfl 2 (by decide) (C.w 2 rfl) rfl dX2_counts_10 ?_
    refine z_aload_n C dX2_counts_13 0 rfl ?_
    refine z_get C inX2_counts_X2 0 wB_o rfl 4 (by decide) (C.w 3 rfl) rfl dX2_counts_14 ?_
    refine z_iload_n C dX2_counts_17 1 rfl ?_
    refine z_ialdN C 3 wB_ow (by omega) (by decide) dX2_counts_18 (v := nI (zOw a b)) rfl ?_
    have f_18b := (ha.ow (b := b) (by omega))
    refine z_zaldN C 2 wB_in (by omega) (by decide) dX2_counts_19 (v := bI (zIn a (zOw a b))) rfl ?_
    refine z_if_eq C 36 dX2_counts_20 (by decide) (zeq_B0 _) (fun c_20 => ?_) (fun c_20 => ?_)
    · skip
      refine z_iconst C (nI 0) dX2_counts_36 (by decide) ?_
      exact z_zretP C dX2_counts_37 (by simp_all [bI, zn0, zn1, zCn, zG0, zIn]) rfl
    · skip
      refine z_aload_n C dX2_counts_23 0 rfl ?_
      refine z_get C inX2_counts_X2 0 wB_o rfl 7 (by decide) (C.w 4 rfl) rfl dX2_counts_24 ?_
      refine z_iload_n C dX2_counts_27 1 rfl ?_
      refine z_ialdN C 6 wB_G (by omega) (by decide) dX2_counts_28 (v := iZ ((zG0 a) b)) rfl ?_
      have f_28b := (zG0_bnd ha b)
      refine z_if_lt C 36 dX2_counts_29 (by decide) (zlt_Z0 (by unfold zB31; omega)) (fun c_29 => ?_) (fun c_29 => ?_)
      · skip
        refine z_iconst C (nI 0) dX2_counts_36 (by decide) ?_
        exact z_zretP C dX2_counts_37 (by simp_all [bI, zn0, zn1, zCn, zG0, zIn]) rfl
      · skip
        refine z_iconst C (nI 1) dX2_counts_32 (by decide) ?_
        refine z_goto C 37 dX2_counts_33 (by decide) ?_
        exact z_zretP C dX2_counts_37 (by simp_all [bI, zn0, zn1, zCn, zG0, zIn]) rfl
theorem inX2_putPrice_X2 : ∀ w ∈ wsX20, w ∈ wsX2_putPrice := fun w h => List.mem_cons_of_mem _ (List.mem_append_right _ (h))
set_option maxRecDepth 100000 in
set_option maxHeartbeats 4000000 in
theorem c_X2_putPrice (l : Launch) (g : zG) (q : Nat → Nat) (a : zS) (bs : Nat → Int × Nat) (wb pd gw : Nat → Nat → Int) (G : Nat → Int) (ha : zOk a) (b x : Nat) (hb : b < 12) (hx : zOk (zSetPr a b x)) : zM g l yX2_putPrice wsX2_putPrice { frames := 2, cells := 0, slots := 0, locals := 44 } [.ref (q 0), .int (nI b), .int (nI x)] (wB g q a G bs wb pd gw) (zPv (wB g q (zSetPr a b x) (va_up G b ((x : Int) - (zRes a (zBu a b) : Int))) bs wb pd gw)) 0 0 := by
  refine zM.of (cc := cX2_putPrice) (nL := 3) (ret := none) (lv := [(0, .ref (q 0)), (1, .int (nI b)), (2, .int (nI x))]) (by decide) rfl (Nat.le_of_ble_eq_true rfl) rfl ?_
  intro E C0 hi
  have C : zC g E cX2_putPrice RX2 wsX2_putPrice 3 none := C0
  obtain ⟨hnf, hnd, hnb, hou, hrs, hbd⟩ := id ha
  refine z_aload_n C dX2_putPrice_0 0 rfl ?_
  refine z_get C inX2_putPrice_X2 0 wB_o rfl 6 (by decide) (C.w 1 rfl) rfl dX2_putPrice_1 ?_
  refine z_iload_n C dX2_putPrice_4 1 rfl ?_
  refine z_iload_n C dX2_putPrice_5 2 rfl ?_
  refine z_iastN C 5 wB_pr (by omega) (by decide) dX2_putPrice_6 (wB_set_pr b x) ?_
  refine z_aload_n C dX2_putPrice_7 0 rfl ?_
  refine z_get C inX2_putPrice_X2 0 wB_o rfl 7 (by decide) (C.w 2 rfl) rfl dX2_putPrice_8 ?_
  refine z_iload_n C dX2_putPrice_11 1 rfl ?_
  refine z_iload_n C dX2_putPrice_12 2 rfl ?_
  refine z_aload_n C dX2_putPrice_13 0 rfl ?_
  refine z_aload_n C dX2_putPrice_14 0 rfl ?_
  refine z_get C inX2_putPrice_X2 0 wB_o rfl 5 (by decide) (C.w 3 rfl) rfl dX2_putPrice_15 ?_
  refine z_iload_n C dX2_putPrice_18 1 rfl ?_
  refine z_ialdN C 4 wB_bu (by omega) (by decide) dX2_putPrice_19 (v := nI (zBu (zSetPr a b x) b)) rfl ?_
  refine z_callV C (c_X2_reservesOf l g q (zSetPr a b x) bs wb pd gw G hx (zBu (zSetPr a b x) b)) (cwV 1 C.ts gX2_putPrice_X2_reservesOf rfl rfl rfl (by decide +kernel) ⟨Nat.le_of_ble_eq_true rfl, Nat.le_of_ble_eq_true rfl⟩) wB_o rfl rfl rfl (Nat.le_of_ble_eq_true rfl) dX2_putPrice_20 ⟨Nat.zero_le _, Nat.zero_le _⟩ (z_i ?_)
  refine z_isub C dX2_putPrice_23 (v := iZ (((x : Nat) : Int) - ((zRes (zSetPr a b x) (zBu (zSetPr a b x) b) : Nat) : Int))) (iZ_sub ((x : Nat) : Int) ((zRes (zSetPr a b x) (zBu (zSetPr a b x) b) : Nat) : Int)) ?_
  refine z_iastN C 6 wB_G (by omega) (by decide) dX2_putPrice_24 (wB_set_G b (((x : Nat) : Int) - ((zRes (zSetPr a b x) (zBu (zSetPr a b x) b) : Nat) : Int))) ?_
  exact z_vretP C dX2_putPrice_25 rfl
theorem inX2_bidsLeftOf_X2 : ∀ w ∈ wsX20, w ∈ wsX2_bidsLeftOf := fun w h => List.mem_cons_of_mem _ (List.mem_append_right _ (h))
set_option maxRecDepth 100000 in
set_option maxHeartbeats 4000000 in
theorem c_X2_bidsLeftOf (l : Launch) (g : zG) (q : Nat → Nat) (a : zS) (bs : Nat → Int × Nat) (wb pd gw : Nat → Nat → Int) (ha : zOk a) (d : Nat) (hd : d < zNd a) : zM g l yX2_bidsLeftOf wsX2_bidsLeftOf { frames := 0, cells := 0, slots := 0, locals := 0 } [.ref (q 0), .int (nI d)] (wB g q a (zG0 a) bs wb pd gw) (zPi (nI (zLof a d)) (wB g q a (zG0 a) bs wb pd gw)) 0 0 := by
  refine zM.of (cc := cX2_bidsLeftOf) (nL := 4) (ret := (some .int)) (lv := [(0, .ref (q 0)), (1, .int (nI d))]) (by decide) rfl (Nat.le_of_ble_eq_true rfl) rfl ?_
  intro E C0 hi
  have C : zC g E cX2_bidsLeftOf RX2 wsX2_bidsLeftOf 4 (some .int) := C0
  obtain ⟨hnf, hnd, hnb, hou, hrs, hbd⟩ := id ha
  refine z_iconst C (nI 0) dX2_bidsLeftOf_0 (by decide) ?_
  refine z_istore_n C dX2_bidsLeftOf_1 (by decide) [(2, .int (nI 0)), (0, .ref (q 0)), (1, .int (nI d))] rfl ?_
  refine z_iconst C (nI 0) dX2_bidsLeftOf_2 (by decide) ?_
  refine z_istore_n C dX2_bidsLeftOf_3 (by decide) [(3, .int (nI 0)), (2, .int (nI 0)), (0, .ref (q 0)), (1, .int (nI d))] rfl ?_
  refine zW.pick (lv' := [(0, .ref (q 0)), (1, .int (nI d)), (2, .int (nI 0)), (3, .int (nI 0))]) [2, 3, 1, 0] rfl ?_
  have hlp4 : ∀ (k i : Nat), i + k = zNb a → zW g l ({ frames := 0, cells := 0, slots := 0, locals := 0 }) E (zMQ g E (zPi (nI (zLof a d)) (wB g q a (zG0 a) bs wb pd gw)) 0 0) 4 0 0 (wB g q a (zG0 a) bs wb pd gw) [(0, .ref (q 0)), (1, .int (nI d)), (2, .int (nI (zCnt (fun b => decide (zOw a b = d) && zGo a b == 0) i))), (3, .int (nI i))] [] 4 := by
    intro k
    induction k with
    | zero =>
      intro i hik
      refine z_iload_n C dX2_bidsLeftOf_4 3 rfl ?_
      refine z_aload_n C dX2_bidsLeftOf_5 0 rfl ?_
      refine z_get C inX2_bidsLeftOf_X2 0 wB_o rfl 10 (by decide) (C.w 1 rfl) rfl dX2_bidsLeftOf_6 ?_
      refine z_icmp_ge C 40 dX2_bidsLeftOf_9 (by decide) (zle_NN (by omega) (by omega)) (fun c_9 => ?_) (fun h9 => absurd (by omega) h9)
      refine z_iload_n C dX2_bidsLeftOf_40 2 rfl ?_
      exact z_iretP C dX2_bidsLeftOf_41 (by rw [show i = zNb a by omega]; rfl) rfl
    | succ k ih4 =>
      intro i hik
      refine z_iload_n C dX2_bidsLeftOf_4 3 rfl ?_
      refine z_aload_n C dX2_bidsLeftOf_5 0 rfl ?_
      refine z_get C inX2_bidsLeftOf_X2 0 wB_o rfl 10 (by decide) (C.w 1 rfl) rfl dX2_bidsLeftOf_6 ?_
      refine z_icmp_ge C 40 dX2_bidsLeftOf_9 (by decide) (zle_NN (by omega) (by omega)) (fun h9 => absurd h9 (by omega)) (fun c_9 => ?_)
      refine z_aload_n C dX2_bidsLeftOf_12 0 rfl ?_
      refine z_get C inX2_bidsLeftOf_X2 0 wB_o rfl 4 (by decide) (C.w 2 rfl) rfl dX2_bidsLeftOf_13 ?_
      refine z_iload_n C dX2_bidsLeftOf_16 3 rfl ?_
      refine z_ialdN C 3 wB_ow (by omega) (by decide) dX2_bidsLeftOf_17 (v := nI (zOw a i)) rfl ?_
      have f_17b := (ha.ow (b := i) (by omega))
      refine z_iload_n C dX2_bidsLeftOf_18 1 rfl ?_
      refine z_icmp_ne C 34 dX2_bidsLeftOf_19 (by decide) (zeq_NN (by omega) (by omega)) (fun c_19 => ?_) (fun c_19 => ?_)
      · skip
        refine z_iinc C dX2_bidsLeftOf_34 3 (nI (i + 1)) rfl (nI_add i 1) (by decide) [(3, .int (nI (i + 1))), (0, .ref (q 0)), (1, .int (nI d)), (2, .int (nI (zCnt (fun b => decide (zOw a b = d) && zGo a b == 0) i)))] rfl ?_
        refine z_goto C 4 dX2_bidsLeftOf_37 (by decide) ?_
        refine zW.pick (lv' := [(0, .ref (q 0)), (1, .int (nI d)), (2, .int (nI (zCnt (fun b => decide (zOw a b = d) && zGo a b == 0) i))), (3, .int (nI (i + 1)))]) [1, 2, 3, 0] rfl ?_
        refine zW.lve (lv' := [(0, .ref (q 0)), (1, .int (nI d)), (2, .int (nI (zCnt (fun b => decide (zOw a b = d) && zGo a b == 0) (i + 1)))), (3, .int (nI (i + 1)))]) (by simp_all [zCnt]) ?_
        exact ih4 (i + 1) (by omega)
      · skip
        refine z_aload_n C dX2_bidsLeftOf_22 0 rfl ?_
        refine z_get C inX2_bidsLeftOf_X2 0 wB_o rfl 9 (by decide) (C.w 3 rfl) rfl dX2_bidsLeftOf_23 ?_
        refine z_iload_n C dX2_bidsLeftOf_26 3 rfl ?_
        refine z_zaldN C 8 wB_go (by omega) (by decide) dX2_bidsLeftOf_27 (v := nI (zGo a i)) rfl ?_
        have f_27b := (ha.go (b := i) (by omega))
        refine z_if_ne C 34 dX2_bidsLeftOf_28 (by decide) (zeq_N0 (by omega)) (fun c_28 => ?_) (fun c_28 => ?_)
        · skip
          refine z_iinc C dX2_bidsLeftOf_34 3 (nI (i + 1)) rfl (nI_add i 1) (by decide) [(3, .int (nI (i + 1))), (0, .ref (q 0)), (1, .int (nI d)), (2, .int (nI (zCnt (fun b => decide (zOw a b = d) && zGo a b == 0) i)))] rfl ?_
          refine z_goto C 4 dX2_bidsLeftOf_37 (by decide) ?_
          refine zW.pick (lv' := [(0, .ref (q 0)), (1, .int (nI d)), (2, .int (nI (zCnt (fun b => decide (zOw a b = d) && zGo a b == 0) i))), (3, .int (nI (i + 1)))]) [1, 2, 3, 0] rfl ?_
          refine zW.lve (lv' := [(0, .ref (q 0)), (1, .int (nI d)), (2, .int (nI (zCnt (fun b => decide (zOw a b = d) && zGo a b == 0) (i + 1)))), (3, .int (nI (i + 1)))]) (by simp_all [zCnt]) ?_
          exact ih4 (i + 1) (by omega)
        · skip
          refine z_iinc C dX2_bidsLeftOf_31 2 (nI (zCnt (fun b => decide (zOw a b = d) && zGo a b == 0) i + 1)) rfl (nI_add (zCnt (fun b => decide (zOw a b = d) && zGo a b == 0) i) 1) (by decide) [(2, .int (nI (zCnt (fun b => decide (zOw a b = d) && zGo a b == 0) i + 1))), (0, .ref (q 0)), (1, .int (nI d)), (3, .int (nI i))] rfl ?_
          refine z_iinc C dX2_bidsLeftOf_34 3 (nI (i + 1)) rfl (nI_add i 1) (by decide) [(3, .int (nI (i + 1))), (2, .int (nI (zCnt (fun b => decide (zOw a b = d) && zGo a b == 0) i + 1))), (0, .ref (q 0)), (1, .int (nI d))] rfl ?_
          refine z_goto C 4 dX2_bidsLeftOf_37 (by decide) ?_
          refine zW.pick (lv' := [(0, .ref (q 0)), (1, .int (nI d)), (2, .int (nI (zCnt (fun b => decide (zOw a b = d) && zGo a b == 0) i + 1))), (3, .int (nI (i + 1)))]) [2, 3, 1, 0] rfl ?_
          refine zW.lve (lv' := [(0, .ref (q 0)), (1, .int (nI d)), (2, .int (nI (zCnt (fun b => decide (zOw a b = d) && zGo a b == 0) (i + 1)))), (3, .int (nI (i + 1)))]) (by simp_all [zCnt]) ?_
          exact ih4 (i + 1) (by omega)
  exact hlp4 (zNb a) 0 (by omega)
theorem inX2_bidsLeft_X2 : ∀ w ∈ wsX20, w ∈ wsX2_bidsLeft := fun w h => List.mem_cons_of_mem _ (List.mem_append_right _ (h))
set_option maxRecDepth 100000 in
set_option maxHeartbeats 4000000 in
theorem c_X2_bidsLeft (l : Launch) (g : zG) (q : Nat → Nat) (a : zS) (bs : Nat → Int × Nat) (wb pd gw : Nat → Nat → Int) (ha : zOk a) : zM g l yX2_bidsLeft wsX2_bidsLeft { frames := 1, cells := 0, slots := 0, locals := 23 } [.ref (q 0)] (wB g q a (zG0 a) bs wb pd gw) (zPi (nI (zSum (zLof a) (zNd a))) (wB g q a (zG0 a) bs wb pd gw)) 0 0 := by
  refine zM.of (cc := cX2_bidsLeft) (nL := 3) (ret := (some .int)) (lv := [(0, .ref (q 0))]) (by decide) rfl (Nat.le_of_ble_eq_true rfl) rfl ?_
  intro E C0 hi
  have C : zC g E cX2_bidsLeft RX2 wsX2_bidsLeft 3 (some .int) := C0
  obtain ⟨hnf, hnd, hnb, hou, hrs, hbd⟩ := id ha
  refine z_iconst C (nI 0) dX2_bidsLeft_0 (by decide) ?_
  refine z_istore_n C dX2_bidsLeft_1 (by decide) [(1, .int (nI 0)), (0, .ref (q 0))] rfl ?_
  refine z_iconst C (nI 0) dX2_bidsLeft_2 (by decide) ?_
  refine z_istore_n C dX2_bidsLeft_3 (by decide) [(2, .int (nI 0)), (1, .int (nI 0)), (0, .ref (q 0))] rfl ?_
  refine zW.pick (lv' := [(0, .ref (q 0)), (1, .int (nI 0)), (2, .int (nI 0))]) [2, 1, 0] rfl ?_
  have hlp4 : ∀ (k i : Nat), i + k = zNd a → zW g l ({ frames := 1, cells := 0, slots := 0, locals := 23 }) E (zMQ g E (zPi (nI (zSum (zLof a) (zNd a))) (wB g q a (zG0 a) bs wb pd gw)) 0 0) 3 0 0 (wB g q a (zG0 a) bs wb pd gw) [(0, .ref (q 0)), (1, .int (nI (zSum (zLof a) i))), (2, .int (nI i))] [] 4 := by
    intro k
    induction k with
    | zero =>
      intro i hik
      refine z_iload_n C dX2_bidsLeft_4 2 rfl ?_
      refine z_aload_n C dX2_bidsLeft_5 0 rfl ?_
      refine z_get C inX2_bidsLeft_X2 0 wB_o rfl 3 (by decide) (C.w 1 rfl) rfl dX2_bidsLeft_6 ?_
      refine z_icmp_ge C 26 dX2_bidsLeft_9 (by decide) (zle_NN (by omega) (by omega)) (fun c_9 => ?_) (fun h9 => absurd (by omega) h9)
      refine z_iload_n C dX2_bidsLeft_26 1 rfl ?_
      exact z_iretP C dX2_bidsLeft_27 (by rw [show i = zNd a by omega]) rfl
    | succ k ih4 =>
      intro i hik
      refine z_iload_n C dX2_bidsLeft_4 2 rfl ?_
      refine z_aload_n C dX2_bidsLeft_5 0 rfl ?_
      refine z_get C inX2_bidsLeft_X2 0 wB_o rfl 3 (by decide) (C.w 1 rfl) rfl dX2_bidsLeft_6 ?_
      refine z_icmp_ge C 26 dX2_bidsLeft_9 (by decide) (zle_NN (by omega) (by omega)) (fun h9 => absurd h9 (by omega)) (fun c_9 => ?_)
      refine z_iload_n C dX2_bidsLeft_12 1 rfl ?_
      refine z_aload_n C dX2_bidsLeft_13 0 rfl ?_
      refine z_iload_n C dX2_bidsLeft_14 2 rfl ?_
      refine z_callV C (c_X2_bidsLeftOf l g q a bs wb pd gw ha i (by omega)) (cwV 1 C.ts gX2_bidsLeft_X2_bidsLeftOf rfl rfl rfl (by decide +kernel) ⟨Nat.le_of_ble_eq_true rfl, Nat.le_of_ble_eq_true rfl⟩) wB_o rfl rfl rfl (Nat.le_of_ble_eq_true rfl) dX2_bidsLeft_15 ⟨Nat.zero_le _, Nat.zero_le _⟩ (z_i ?_)
      refine z_iadd C dX2_bidsLeft_18 (v := nI ((zSum (zLof a) i) + (zLof a i))) (nI_add (zSum (zLof a) i) (zLof a i)) ?_
      refine z_istore_n C dX2_bidsLeft_19 (by decide) [(1, .int (nI ((zSum (zLof a) i) + (zLof a i)))), (0, .ref (q 0)), (2, .int (nI i))] rfl ?_
      refine z_iinc C dX2_bidsLeft_20 2 (nI (i + 1)) rfl (nI_add i 1) (by decide) [(2, .int (nI (i + 1))), (1, .int (nI ((zSum (zLof a) i) + (zLof a i)))), (0, .ref (q 0))] rfl ?_
      refine z_goto C 4 dX2_bidsLeft_23 (by decide) ?_
      refine zW.pick (lv' := [(0, .ref (q 0)), (1, .int (nI ((zSum (zLof a) i) + (zLof a i)))), (2, .int (nI (i + 1)))]) [2, 1, 0] rfl ?_
      refine zW.lve (lv' := [(0, .ref (q 0)), (1, .int (nI (zSum (zLof a) (i + 1)))), (2, .int (nI (i + 1)))]) (rfl) ?_
      exact ih4 (i + 1) (by omega)
  exact hlp4 (zNd a) 0 (by omega)
theorem inX2_countingBidsWith_X2 : ∀ w ∈ wsX20, w ∈ wsX2_countingBidsWith := fun w h => List.mem_cons_of_mem _ (List.mem_append_right _ (h))
set_option maxRecDepth 100000 in
set_option maxHeartbeats 4000000 in
theorem c_X2_countingBidsWith (l : Launch) (g : zG) (q : Nat → Nat) (a : zS) (bs : Nat → Int × Nat) (wb pd gw : Nat → Nat → Int) (ha : zOk a) (f : Nat) (hf : f < 8) : zM g l yX2_countingBidsWith wsX2_countingBidsWith { frames := 1, cells := 0, slots := 0, locals := 21 } [.ref (q 0), .int (nI f)] (wB g q a (zG0 a) bs wb pd gw) (zPi (nI (zCnt (fun b => zCn a (zOu a) b && (zBu a b).testBit f) (zNb a))) (wB g q a (zG0 a) bs wb pd gw)) 0 0 := by
  refine zM.of (cc := cX2_countingBidsWith) (nL := 4) (ret := (some .int)) (lv := [(0, .ref (q 0)), (1, .int (nI f))]) (by decide) rfl (Nat.le_of_ble_eq_true rfl) rfl ?_
  intro E C0 hi
  have C : zC g E cX2_countingBidsWith RX2 wsX2_countingBidsWith 4 (some .int) := C0
  obtain ⟨hnf, hnd, hnb, hou, hrs, hbd⟩ := id ha
  refine z_iconst C (nI 0) dX2_countingBidsWith_0 (by decide) ?_
  refine z_istore_n C dX2_countingBidsWith_1 (by decide) [(2, .int (nI 0)), (0, .ref (q 0)), (1, .int (nI f))] rfl ?_
  refine z_iconst C (nI 0) dX2_countingBidsWith_2 (by decide) ?_
  refine z_istore_n C dX2_countingBidsWith_3 (by decide) [(3, .int (nI 0)), (2, .int (nI 0)), (0, .ref (q 0)), (1, .int (nI f))] rfl ?_
  refine zW.pick (lv' := [(0, .ref (q 0)), (1, .int (nI f)), (2, .int (nI 0)), (3, .int (nI 0))]) [2, 3, 1, 0] rfl ?_
  have hlp4 : ∀ (k i : Nat), i + k = zNb a → zW g l ({ frames := 1, cells := 0, slots := 0, locals := 21 }) E (zMQ g E (zPi (nI (zCnt (fun b => zCn a (zOu a) b && (zBu a b).testBit f) (zNb a))) (wB g q a (zG0 a) bs wb pd gw)) 0 0) 4 0 0 (wB g q a (zG0 a) bs wb pd gw) [(0, .ref (q 0)), (1, .int (nI f)), (2, .int (nI (zCnt (fun b => zCn a (zOu a) b && (zBu a b).testBit f) i))), (3, .int (nI i))] [] 4 := by
    intro k
    induction k with
    | zero =>
      intro i hik
      refine z_iload_n C dX2_countingBidsWith_4 3 rfl ?_
      refine z_aload_n C dX2_countingBidsWith_5 0 rfl ?_
      refine z_get C inX2_countingBidsWith_X2 0 wB_o rfl 10 (by decide) (C.w 1 rfl) rfl dX2_countingBidsWith_6 ?_
      refine z_icmp_ge C 42 dX2_countingBidsWith_9 (by decide) (zle_NN (by omega) (by omega)) (fun c_9 => ?_) (fun h9 => absurd (by omega) h9)
      refine z_iload_n C dX2_countingBidsWith_42 2 rfl ?_
      exact z_iretP C dX2_countingBidsWith_43 (by rw [show i = zNb a by omega]) rfl
    | succ k ih4 =>
      intro i hik
      refine z_iload_n C dX2_countingBidsWith_4 3 rfl ?_
      refine z_aload_n C dX2_countingBidsWith_5 0 rfl ?_
      refine z_get C inX2_countingBidsWith_X2 0 wB_o rfl 10 (by decide) (C.w 1 rfl) rfl dX2_countingBidsWith_6 ?_
      refine z_icmp_ge C 42 dX2_countingBidsWith_9 (by decide) (zle_NN (by omega) (by omega)) (fun h9 => absurd h9 (by omega)) (fun c_9 => ?_)
      refine z_aload_n C dX2_countingBidsWith_12 0 rfl ?_
      refine z_iload_n C dX2_countingBidsWith_13 3 rfl ?_
      refine z_callV C (c_X2_counts l g q a bs wb pd gw ha i (by omega)) (cwV 1 C.ts gX2_countingBidsWith_X2_counts rfl rfl rfl (by decide +kernel) ⟨Nat.le_of_ble_eq_true rfl, Nat.le_of_ble_eq_true rfl⟩) wB_o rfl rfl rfl (Nat.le_of_ble_eq_true rfl) dX2_countingBidsWith_14 ⟨Nat.zero_le _, Nat.zero_le _⟩ (z_i ?_)
      refine z_if_eq C 36 dX2_countingBidsWith_17 (by decide) (zeq_B0 _) (fun c_17 => ?_) (fun c_17 => ?_)
      · skip
        refine z_iinc C dX2_countingBidsWith_36 3 (nI (i + 1)) rfl (nI_add i 1) (by decide) [(3, .int (nI (i + 1))), (0, .ref (q 0)), (1, .int (nI f)), (2, .int (nI (zCnt (fun b => zCn a (zOu a) b && (zBu a b).testBit f) i)))] rfl ?_
        refine z_goto C 4 dX2_countingBidsWith_39 (by decide) ?_
        refine zW.pick (lv' := [(0, .ref (q 0)), (1, .int (nI f)), (2, .int (nI (zCnt (fun b => zCn a (zOu a) b && (zBu a b).testBit f) i))), (3, .int (nI (i + 1)))]) [1, 2, 3, 0] rfl ?_
        refine zW.lve (lv' := [(0, .ref (q 0)), (1, .int (nI f)), (2, .int (nI (zCnt (fun b => zCn a (zOu a) b && (zBu a b).testBit f) (i + 1)))), (3, .int (nI (i + 1)))]) (by simp_all [zCnt]) ?_
        exact ih4 (i + 1) (by omega)
      · skip
        refine z_aload_n C dX2_countingBidsWith_20 0 rfl ?_
        refine z_get C inX2_countingBidsWith_X2 0 wB_o rfl 5 (by decide) (C.w 2 rfl) rfl dX2_countingBidsWith_21 ?_
        refine z_iload_n C dX2_countingBidsWith_24 3 rfl ?_
        refine z_ialdN C 4 wB_bu (by omega) (by decide) dX2_countingBidsWith_25 (v := nI (zBu a i)) rfl ?_
        have f_25b := (ha.bu8 (b := i) (by omega))
        refine z_iload_n C dX2_countingBidsWith_26 1 rfl ?_
        refine z_callS C (c_X2_hasField l g (wB g q a (zG0 a) bs wb pd gw) (zBu a i) f (by omega)) (va_cwS 2 C.ts gX2_countingBidsWith_X2_hasField rfl rfl rfl (by decide +kernel) ⟨Nat.le_of_ble_eq_true rfl, Nat.le_of_ble_eq_true rfl⟩) rfl rfl (Nat.le_of_ble_eq_true rfl) dX2_countingBidsWith_27 ⟨Nat.zero_le _, Nat.zero_le _⟩ (z_i ?_)
        refine z_if_eq C 36 dX2_countingBidsWith_30 (by decide) (zeq_B0 _) (fun c_30 => ?_) (fun c_30 => ?_)
        · skip
          refine z_iinc C dX2_countingBidsWith_36 3 (nI (i + 1)) rfl (nI_add i 1) (by decide) [(3, .int (nI (i + 1))), (0, .ref (q 0)), (1, .int (nI f)), (2, .int (nI (zCnt (fun b => zCn a (zOu a) b && (zBu a b).testBit f) i)))] rfl ?_
          refine z_goto C 4 dX2_countingBidsWith_39 (by decide) ?_
          refine zW.pick (lv' := [(0, .ref (q 0)), (1, .int (nI f)), (2, .int (nI (zCnt (fun b => zCn a (zOu a) b && (zBu a b).testBit f) i))), (3, .int (nI (i + 1)))]) [1, 2, 3, 0] rfl ?_
          refine zW.lve (lv' := [(0, .ref (q 0)), (1, .int (nI f)), (2, .int (nI (zCnt (fun b => zCn a (zOu a) b && (zBu a b).testBit f) (i + 1)))), (3, .int (nI (i + 1)))]) (by simp_all [zCnt]) ?_
          exact ih4 (i + 1) (by omega)
        · skip
          refine z_iinc C dX2_countingBidsWith_33 2 (nI (zCnt (fun b => zCn a (zOu a) b && (zBu a b).testBit f) i + 1)) rfl (nI_add (zCnt (fun b => zCn a (zOu a) b && (zBu a b).testBit f) i) 1) (by decide) [(2, .int (nI (zCnt (fun b => zCn a (zOu a) b && (zBu a b).testBit f) i + 1))), (0, .ref (q 0)), (1, .int (nI f)), (3, .int (nI i))] rfl ?_
          refine z_iinc C dX2_countingBidsWith_36 3 (nI (i + 1)) rfl (nI_add i 1) (by decide) [(3, .int (nI (i + 1))), (2, .int (nI (zCnt (fun b => zCn a (zOu a) b && (zBu a b).testBit f) i + 1))), (0, .ref (q 0)), (1, .int (nI f))] rfl ?_
          refine z_goto C 4 dX2_countingBidsWith_39 (by decide) ?_
          refine zW.pick (lv' := [(0, .ref (q 0)), (1, .int (nI f)), (2, .int (nI (zCnt (fun b => zCn a (zOu a) b && (zBu a b).testBit f) i + 1))), (3, .int (nI (i + 1)))]) [2, 3, 1, 0] rfl ?_
          refine zW.lve (lv' := [(0, .ref (q 0)), (1, .int (nI f)), (2, .int (nI (zCnt (fun b => zCn a (zOu a) b && (zBu a b).testBit f) (i + 1)))), (3, .int (nI (i + 1)))]) (by simp_all [zCnt]) ?_
          exact ih4 (i + 1) (by omega)
  exact hlp4 (zNb a) 0 (by omega)
set_option maxRecDepth 100000 in
set_option maxHeartbeats 4000000 in
theorem c_X2_ownerOf_no (l : Launch) (g : zG) (q : Nat → Nat) (a : zS) (bs : Nat → Int × Nat) (wb pd gw : Nat → Nat → Int) (ha : zOk a) : zM g l yX2_ownerOf wsX2_ownerOf { frames := 0, cells := 0, slots := 0, locals := 0 } [.ref (q 0), .int (iZ (-1))] (wB g q a (zG0 a) bs wb pd gw) (zPi (iZ (-1)) (wB g q a (zG0 a) bs wb pd gw)) 0 0 := by
  refine zM.of (cc := cX2_ownerOf) (nL := 2) (ret := (some .int)) (lv := [(0, .ref (q 0)), (1, .int (iZ (-1)))]) (by decide) rfl (Nat.le_of_ble_eq_true rfl) rfl ?_
  intro E C0 hi
  have C : zC g E cX2_ownerOf RX2 wsX2_ownerOf 2 (some .int) := C0
  obtain ⟨hnf, hnd, hnb, hou, hrs, hbd⟩ := id ha
  refine z_iload_n C dX2_ownerOf_0 1 rfl ?_
  refine z_iconst C (iZ (-1)) dX2_ownerOf_1 (by decide) ?_
  refine z_icmp_ne C 9 dX2_ownerOf_2 (by decide) Iff.rfl (fun h9 => absurd rfl h9) (fun c_2 => ?_)
  refine z_iconst C (iZ (-1)) dX2_ownerOf_5 (by decide) ?_
  refine z_goto C 15 dX2_ownerOf_6 (by decide) ?_
  exact z_iretP C dX2_ownerOf_15 rfl rfl
theorem inX2_ownerOf_X2 : ∀ w ∈ wsX20, w ∈ wsX2_ownerOf := fun w h => List.mem_cons_of_mem _ (List.mem_append_right _ (h))
set_option maxRecDepth 100000 in
set_option maxHeartbeats 4000000 in
theorem c_X2_ownerOf (l : Launch) (g : zG) (q : Nat → Nat) (a : zS) (bs : Nat → Int × Nat) (wb pd gw : Nat → Nat → Int) (ha : zOk a) (b : Nat) (hb : b < zNb a) : zM g l yX2_ownerOf wsX2_ownerOf { frames := 0, cells := 0, slots := 0, locals := 0 } [.ref (q 0), .int (nI b)] (wB g q a (zG0 a) bs wb pd gw) (zPi (nI (zOw a b)) (wB g q a (zG0 a) bs wb pd gw)) 0 0 := by
  refine zM.of (cc := cX2_ownerOf) (nL := 2) (ret := (some .int)) (lv := [(0, .ref (q 0)), (1, .int (nI b))]) (by decide) rfl (Nat.le_of_ble_eq_true rfl) rfl ?_
  intro E C0 hi
  have C : zC g E cX2_ownerOf RX2 wsX2_ownerOf 2 (some .int) := C0
  obtain ⟨hnf, hnd, hnb, hou, hrs, hbd⟩ := id ha
  refine z_iload_n C dX2_ownerOf_0 1 rfl ?_
  refine z_iconst C (iZ (-1)) dX2_ownerOf_1 (by decide) ?_
  refine z_icmp_ne C 9 dX2_ownerOf_2 (by decide) (zeq_ZZ (x := ((b : Nat) : Int)) (y := (-1)) (by unfold zB31; omega) (by unfold zB31; omega)) (fun c_2 => ?_) (fun h9 => absurd h9 (by omega))
  refine z_aload_n C dX2_ownerOf_9 0 rfl ?_
  refine z_get C inX2_ownerOf_X2 0 wB_o rfl 4 (by decide) (C.w 1 rfl) rfl dX2_ownerOf_10 ?_
  refine z_iload_n C dX2_ownerOf_13 1 rfl ?_
  refine z_ialdN C 3 wB_ow (by omega) (by decide) dX2_ownerOf_14 (v := nI (zOw a b)) rfl ?_
  have f_14b := (ha.ow (b := b) (by omega))
  exact z_iretP C dX2_ownerOf_15 rfl rfl
set_option maxRecDepth 100000 in
set_option maxHeartbeats 4000000 in
theorem c_X2_asNumber  (l : Launch) (g : zG) (w : va_W) (b : Bool) : zM g l yX2_asNumber wsX2_asNumber { frames := 0, cells := 0, slots := 0, locals := 0 } [.int (bI b)] (w) (zPi (bI b) (w)) 0 0 := by
  refine zM.of (cc := cX2_asNumber) (nL := 1) (ret := (some .int)) (lv := [(0, .int (bI b))]) (by decide) rfl (Nat.le_of_ble_eq_true rfl) rfl ?_
  intro E C0 hi
  have C : zC g E cX2_asNumber RX2 wsX2_asNumber 1 (some .int) := C0
  refine z_iload_n C dX2_asNumber_0 0 rfl ?_
  refine z_if_eq C 8 dX2_asNumber_1 (by decide) (zeq_B0 _) (fun c_1 => ?_) (fun c_1 => ?_)
  · skip
    refine z_iconst C (nI 0) dX2_asNumber_8 (by decide) ?_
    exact z_iretP C dX2_asNumber_9 (by simp_all [bI, zn0, zn1]) rfl
  · skip
    refine z_iconst C (nI 1) dX2_asNumber_4 (by decide) ?_
    refine z_goto C 9 dX2_asNumber_5 (by decide) ?_
    exact z_iretP C dX2_asNumber_9 (by simp_all [bI, zn0, zn1]) rfl
theorem inX2_requireField_X2 : ∀ w ∈ wsX20, w ∈ wsX2_requireField := fun w h => List.mem_cons_of_mem _ (List.mem_append_left _ (List.mem_append_right _ (h)))
set_option maxRecDepth 100000 in
set_option maxHeartbeats 4000000 in
theorem c_X2_requireField (l : Launch) (g : zG) (q : Nat → Nat) (a : zS) (bs : Nat → Int × Nat) (wb pd gw : Nat → Nat → Int) (ha : zOk a) (x : Nat) (hx : x < zNf a) : zM g l yX2_requireField wsX2_requireField { frames := 0, cells := 0, slots := 0, locals := 0 } [.ref (q 0), .int (nI x)] (wB g q a (zG0 a) bs wb pd gw) (zPv (wB g q a (zG0 a) bs wb pd gw)) 0 0 := by
  refine zM.of (cc := cX2_requireField) (nL := 2) (ret := none) (lv := [(0, .ref (q 0)), (1, .int (nI x))]) (by decide) rfl (Nat.le_of_ble_eq_true rfl) rfl ?_
  intro E C0 hi
  have C : zC g E cX2_requireField RX2 wsX2_requireField 2 none := C0
  obtain ⟨hnf, hnd, hnb, hou, hrs, hbd⟩ := id ha
  refine z_iload_n C dX2_requireField_0 1 rfl ?_
  refine z_if_lt C 12 dX2_requireField_1 (by decide) (zlt_N0 (by omega)) (fun h9 => absurd h9 id) (fun c_1 => ?_)
  refine z_iload_n C dX2_requireField_4 1 rfl ?_
  refine z_aload_n C dX2_requireField_5 0 rfl ?_
  refine z_get C inX2_requireField_X2 0 wB_o rfl 1 (by decide) (C.w 3 rfl) rfl dX2_requireField_6 ?_
  refine z_icmp_lt C 22 dX2_requireField_9 (by decide) (zlt_NN (by omega) (by omega)) (fun c_9 => ?_) (fun h9 => absurd (by omega) h9)
  exact z_vretP C dX2_requireField_22 rfl
theorem inX2_requireBidder_X2 : ∀ w ∈ wsX20, w ∈ wsX2_requireBidder := fun w h => List.mem_cons_of_mem _ (List.mem_append_left _ (List.mem_append_right _ (h)))
set_option maxRecDepth 100000 in
set_option maxHeartbeats 4000000 in
theorem c_X2_requireBidder (l : Launch) (g : zG) (q : Nat → Nat) (a : zS) (bs : Nat → Int × Nat) (wb pd gw : Nat → Nat → Int) (ha : zOk a) (x : Nat) (hx : x < zNd a) : zM g l yX2_requireBidder wsX2_requireBidder { frames := 0, cells := 0, slots := 0, locals := 0 } [.ref (q 0), .int (nI x)] (wB g q a (zG0 a) bs wb pd gw) (zPv (wB g q a (zG0 a) bs wb pd gw)) 0 0 := by
  refine zM.of (cc := cX2_requireBidder) (nL := 2) (ret := none) (lv := [(0, .ref (q 0)), (1, .int (nI x))]) (by decide) rfl (Nat.le_of_ble_eq_true rfl) rfl ?_
  intro E C0 hi
  have C : zC g E cX2_requireBidder RX2 wsX2_requireBidder 2 none := C0
  obtain ⟨hnf, hnd, hnb, hou, hrs, hbd⟩ := id ha
  refine z_iload_n C dX2_requireBidder_0 1 rfl ?_
  refine z_if_lt C 12 dX2_requireBidder_1 (by decide) (zlt_N0 (by omega)) (fun h9 => absurd h9 id) (fun c_1 => ?_)
  refine z_iload_n C dX2_requireBidder_4 1 rfl ?_
  refine z_aload_n C dX2_requireBidder_5 0 rfl ?_
  refine z_get C inX2_requireBidder_X2 0 wB_o rfl 3 (by decide) (C.w 3 rfl) rfl dX2_requireBidder_6 ?_
  refine z_icmp_lt C 22 dX2_requireBidder_9 (by decide) (zlt_NN (by omega) (by omega)) (fun c_9 => ?_) (fun h9 => absurd (by omega) h9)
  exact z_vretP C dX2_requireBidder_22 rfl
theorem inX2_requireBid_X2 : ∀ w ∈ wsX20, w ∈ wsX2_requireBid := fun w h => List.mem_cons_of_mem _ (List.mem_append_left _ (List.mem_append_right _ (h)))
set_option maxRecDepth 100000 in
set_option maxHeartbeats 4000000 in
theorem c_X2_requireBid (l : Launch) (g : zG) (q : Nat → Nat) (a : zS) (bs : Nat → Int × Nat) (wb pd gw : Nat → Nat → Int) (ha : zOk a) (x : Nat) (hx : x < zNb a) : zM g l yX2_requireBid wsX2_requireBid { frames := 0, cells := 0, slots := 0, locals := 0 } [.ref (q 0), .int (nI x)] (wB g q a (zG0 a) bs wb pd gw) (zPv (wB g q a (zG0 a) bs wb pd gw)) 0 0 := by
  refine zM.of (cc := cX2_requireBid) (nL := 2) (ret := none) (lv := [(0, .ref (q 0)), (1, .int (nI x))]) (by decide) rfl (Nat.le_of_ble_eq_true rfl) rfl ?_
  intro E C0 hi
  have C : zC g E cX2_requireBid RX2 wsX2_requireBid 2 none := C0
  obtain ⟨hnf, hnd, hnb, hou, hrs, hbd⟩ := id ha
  refine z_iload_n C dX2_requireBid_0 1 rfl ?_
  refine z_if_lt C 12 dX2_requireBid_1 (by decide) (zlt_N0 (by omega)) (fun h9 => absurd h9 id) (fun c_1 => ?_)
  refine z_iload_n C dX2_requireBid_4 1 rfl ?_
  refine z_aload_n C dX2_requireBid_5 0 rfl ?_
  refine z_get C inX2_requireBid_X2 0 wB_o rfl 10 (by decide) (C.w 3 rfl) rfl dX2_requireBid_6 ?_
  refine z_icmp_lt C 22 dX2_requireBid_9 (by decide) (zlt_NN (by omega) (by omega)) (fun c_9 => ?_) (fun h9 => absurd (by omega) h9)
  exact z_vretP C dX2_requireBid_22 rfl
set_option maxRecDepth 100000 in
set_option maxHeartbeats 4000000 in
theorem c_X2_requireWhat  (l : Launch) (g : zG) (w : va_W) (x t : Nat) (hx : x ≤ t) (ht : t < 100) : zM g l yX2_requireWhat wsX2_requireWhat { frames := 0, cells := 0, slots := 0, locals := 0 } [.int (nI x), .int (nI t)] (w) (zPv (w)) 0 0 := by
  refine zM.of (cc := cX2_requireWhat) (nL := 2) (ret := none) (lv := [(0, .int (nI x)), (1, .int (nI t))]) (by decide) rfl (Nat.le_of_ble_eq_true rfl) rfl ?_
  intro E C0 hi
  have C : zC g E cX2_requireWhat RX2 wsX2_requireWhat 2 none := C0
  refine z_iload_n C dX2_requireWhat_0 0 rfl ?_
  refine z_if_lt C 9 dX2_requireWhat_1 (by decide) (zlt_N0 (by omega)) (fun h9 => absurd h9 id) (fun c_1 => ?_)
  refine z_iload_n C dX2_requireWhat_4 0 rfl ?_
  refine z_iload_n C dX2_requireWhat_5 1 rfl ?_
  refine z_icmp_le C 19 dX2_requireWhat_6 (by decide) (zle_NN (by omega) (by omega)) (fun c_6 => ?_) (fun h9 => absurd (by omega) h9)
  exact z_vretP C dX2_requireWhat_19 rfl
set_option maxRecDepth 100000 in
set_option maxHeartbeats 4000000 in
theorem c_X2_requireReserve  (l : Launch) (g : zG) (w : va_W) (x : Nat) (hx : x ≤ 99) : zM g l yX2_requireReserve wsX2_requireReserve { frames := 0, cells := 0, slots := 0, locals := 0 } [.int (nI x)] (w) (zPv (w)) 0 0 := by
  refine zM.of (cc := cX2_requireReserve) (nL := 1) (ret := none) (lv := [(0, .int (nI x))]) (by decide) rfl (Nat.le_of_ble_eq_true rfl) rfl ?_
  intro E C0 hi
  have C : zC g E cX2_requireReserve RX2 wsX2_requireReserve 1 none := C0
  refine z_iload_n C dX2_requireReserve_0 0 rfl ?_
  refine z_if_lt C 10 dX2_requireReserve_1 (by decide) (zlt_N0 (by omega)) (fun h9 => absurd h9 id) (fun c_1 => ?_)
  refine z_iload_n C dX2_requireReserve_4 0 rfl ?_
  refine z_bipush C (nI 99) dX2_requireReserve_5 (by decide) ?_
  refine z_icmp_le C 20 dX2_requireReserve_7 (by decide) (zle_NN (by omega) (by omega)) (fun c_7 => ?_) (fun h9 => absurd (by omega) h9)
  exact z_vretP C dX2_requireReserve_20 rfl
set_option maxRecDepth 100000 in
set_option maxHeartbeats 4000000 in
theorem c_X2_requireAmount  (l : Launch) (g : zG) (w : va_W) (x : Nat) (hx : x ≤ 999) : zM g l yX2_requireAmount wsX2_requireAmount { frames := 0, cells := 0, slots := 0, locals := 0 } [.int (nI x)] (w) (zPv (w)) 0 0 := by
  refine zM.of (cc := cX2_requireAmount) (nL := 1) (ret := none) (lv := [(0, .int (nI x))]) (by decide) rfl (Nat.le_of_ble_eq_true rfl) rfl ?_
  intro E C0 hi
  have C : zC g E cX2_requireAmount RX2 wsX2_requireAmount 1 none := C0
  refine z_iload_n C dX2_requireAmount_0 0 rfl ?_
  refine z_if_lt C 11 dX2_requireAmount_1 (by decide) (zlt_N0 (by omega)) (fun h9 => absurd h9 id) (fun c_1 => ?_)
  refine z_iload_n C dX2_requireAmount_4 0 rfl ?_
  refine z_sipush C (nI 999) dX2_requireAmount_5 (by decide) ?_
  refine z_icmp_le C 21 dX2_requireAmount_8 (by decide) (zle_NN (by omega) (by omega)) (fun c_8 => ?_) (fun h9 => absurd (by omega) h9)
  exact z_vretP C dX2_requireAmount_21 rfl
theorem inX2_requireBundle_X2 : ∀ w ∈ wsX20, w ∈ wsX2_requireBundle := fun w h => List.mem_cons_of_mem _ (List.mem_append_left _ (List.mem_append_right _ (h)))
set_option maxRecDepth 100000 in
set_option maxHeartbeats 4000000 in
theorem c_X2_requireBundle (l : Launch) (g : zG) (q : Nat → Nat) (a : zS) (bs : Nat → Int × Nat) (wb pd gw : Nat → Nat → Int) (ha : zOk a) (x : Nat) (h0 : 0 < x) (hx : x < 2 ^ zNf a) : zM g l yX2_requireBundle wsX2_requireBundle { frames := 0, cells := 0, slots := 0, locals := 0 } [.ref (q 0), .int (nI x)] (wB g q a (zG0 a) bs wb pd gw) (zPv (wB g q a (zG0 a) bs wb pd gw)) 0 0 := by
  refine zM.of (cc := cX2_requireBundle) (nL := 2) (ret := none) (lv := [(0, .ref (q 0)), (1, .int (nI x))]) (by decide) rfl (Nat.le_of_ble_eq_true rfl) rfl ?_
  intro E C0 hi
  have C : zC g E cX2_requireBundle RX2 wsX2_requireBundle 2 none := C0
  obtain ⟨hnf, hnd, hnb, hou, hrs, hbd⟩ := id ha
  have p8 : 2 ^ zNf a ≤ 2 ^ 8 := zp2_le hnf
  refine z_iload_n C dX2_requireBundle_0 1 rfl ?_
  refine z_if_le C 14 dX2_requireBundle_1 (by decide) (zle_N0 (by omega)) (fun h9 => absurd h9 (by omega)) (fun c_1 => ?_)
  refine z_iload_n C dX2_requireBundle_4 1 rfl ?_
  refine z_iconst C (nI 1) dX2_requireBundle_5 (by decide) ?_
  refine z_aload_n C dX2_requireBundle_6 0 rfl ?_
  refine z_get C inX2_requireBundle_X2 0 wB_o rfl 1 (by decide) (C.w 3 rfl) rfl dX2_requireBundle_7 ?_
  refine z_ishl C dX2_requireBundle_10 (v := nI (2 ^ (zNf a))) (zshl_1N (by omega)) ?_
  refine z_icmp_lt C 24 dX2_requireBundle_11 (by decide) (zlt_NN (by omega) (by omega)) (fun c_11 => ?_) (fun h9 => absurd hx h9)
  exact z_vretP C dX2_requireBundle_24 rfl
set_option maxRecDepth 100000 in
set_option maxHeartbeats 4000000 in
theorem c_J7_fill_53178  (l : Launch) (g : zG) (w : va_W) (k adr n : Nat) (f : Nat → Int) (x : Int) (hk : w[k]? = some (adr, .inl (zI g, n, .inl (fun j => iZ (f j))))) (hn : n < 100) : zM g l yJ7_fill_53178 wsJ7_fill_53178 { frames := 0, cells := 0, slots := 0, locals := 0 } [.ref adr, .int (iZ x)] (w) (zPv (w.set k (adr, .inl (zI g, n, .inl (fun j => iZ ((zFil f n x) j)))))) 0 0 := by
  refine zM.of (cc := cJ7_fill_53178) (nL := 4) (ret := none) (lv := [(0, .ref adr), (1, .int (iZ x))]) (by decide) rfl (Nat.le_of_ble_eq_true rfl) rfl ?_
  intro E C0 hi
  have C : zC g E cJ7_fill_53178 RJ7 wsJ7_fill_53178 4 none := C0
  refine z_iconst C (nI 0) dJ7_fill_53178_0 (by decide) ?_
  refine z_istore_n C dJ7_fill_53178_1 (by decide) [(2, .int (nI 0)), (0, .ref adr), (1, .int (iZ x))] rfl ?_
  refine z_aload_n C dJ7_fill_53178_2 1 rfl ?_
  refine z_alenI C k hk dJ7_fill_53178_3 ?_
  refine z_istore_n C dJ7_fill_53178_4 (by decide) [(3, .int (nI n)), (2, .int (nI 0)), (0, .ref adr), (1, .int (iZ x))] rfl ?_
  refine zW.eqw (ws2 := w.set k (adr, .inl (zI g, n, .inl (fun j => iZ ((zFil f 0 x) j))))) (by rw [zFil_0]; exact zset_self hk) ?_
  refine zW.pick (lv' := [(0, .ref adr), (1, .int (iZ x)), (2, .int (nI 0)), (3, .int (nI n))]) [2, 3, 1, 0] rfl ?_
  have hlp5 : ∀ (kk i : Nat), i + kk = n → zW g l ({ frames := 0, cells := 0, slots := 0, locals := 0 }) E (zMQ g E (zPv (w.set k (adr, .inl (zI g, n, .inl (fun j => iZ ((zFil f n x) j)))))) 0 0) 4 0 0 (w.set k (adr, .inl (zI g, n, .inl (fun j => iZ ((zFil f i x) j))))) [(0, .ref adr), (1, .int (iZ x)), (2, .int (nI i)), (3, .int (nI n))] [] 5 := by
    intro kk
    induction kk with
    | zero =>
      intro i hik
      refine z_iload_n C dJ7_fill_53178_5 2 rfl ?_
      refine z_iload_n C dJ7_fill_53178_6 3 rfl ?_
      refine z_icmp_ge C 20 dJ7_fill_53178_7 (by decide) (zle_NN (by omega) (by omega)) (fun c_7 => ?_) (fun h9 => absurd (by omega) h9)
      exact z_vretP C dJ7_fill_53178_20 (by rw [show i = n by omega])
    | succ kk ih5 =>
      intro i hik
      refine z_iload_n C dJ7_fill_53178_5 2 rfl ?_
      refine z_iload_n C dJ7_fill_53178_6 3 rfl ?_
      refine z_icmp_ge C 20 dJ7_fill_53178_7 (by decide) (zle_NN (by omega) (by omega)) (fun h9 => absurd h9 (by omega)) (fun c_7 => ?_)
      refine z_aload_n C dJ7_fill_53178_10 0 rfl ?_
      refine z_iload_n C dJ7_fill_53178_11 2 rfl ?_
      refine z_iload_n C dJ7_fill_53178_12 1 rfl ?_
      refine z_iastN C k (zset_get hk) (by omega) (by omega) dJ7_fill_53178_13 ((zset_put w k adr (zFil f i x) i x).trans (by rw [zFil_up])) ?_
      refine z_iinc C dJ7_fill_53178_14 2 (nI (i + 1)) rfl (nI_add i 1) (by decide) [(2, .int (nI (i + 1))), (0, .ref adr), (1, .int (iZ x)), (3, .int (nI n))] rfl ?_
      refine z_goto C 5 dJ7_fill_53178_17 (by decide) ?_
      refine zW.pick (lv' := [(0, .ref adr), (1, .int (iZ x)), (2, .int (nI (i + 1))), (3, .int (nI n))]) [1, 2, 0, 3] rfl ?_
      exact ih5 (i + 1) (by omega)
  exact hlp5 (n) 0 (by omega)
end
section
def zCons (x y : Int × Nat) : Int × Nat := if zBt x y = true then y else x
/-- a bid that counts, with no field and no bidder taken -/
def zFitb (a : zS) (i tf tb : Nat) : Bool := (tf &&& zBu a i == 0) && (!(tb.testBit (zOw a i)) && zCn a (zOu a) i)
/-- the search: the best of x and of all sets that add to m bids from i on, k bids -/
def zDfs (a : zS) : Nat → Int × Nat → Nat → Nat → Nat → Int → Nat → Int × Nat
  | 0, x, _, _, _, _, _ => x
  | k + 1, x, i, tf, tb, gi, m => zDfs a k (if zFitb a i tf tb = true then zDfs a k (zCons x (gi + zGn a i, m ||| 2 ^ i)) (i + 1) (tf ||| zBu a i) (tb ||| 2 ^ zOw a i) (gi + zGn a i) (m ||| 2 ^ i) else x) (i + 1) tf tb gi m
def zSw (a : zS) (k : Nat) (x : Int × Nat) (i tf tb : Nat) (gi : Int) (m : Nat) : Int × Nat := if zFitb a i tf tb = true then zDfs a k (zCons x (gi + zGn a i, m ||| 2 ^ i)) (i + 1) (tf ||| zBu a i) (tb ||| 2 ^ zOw a i) (gi + zGn a i) (m ||| 2 ^ i) else x
theorem zDfs_s (a : zS) (k : Nat) (x : Int × Nat) (i tf tb : Nat) (gi : Int) (m : Nat) : zDfs a (k + 1) x i tf tb gi m = zDfs a k (zSw a k x i tf tb gi m) (i + 1) tf tb gi m := rfl
def zXok (x : Int × Nat) : Prop := 0 ≤ x.1 ∧ x.1 ≤ 11988 ∧ x.2 < 4096
theorem zCons_ok {x y : Int × Nat} (hx : zXok x) (hy : zXok y) : zXok (zCons x y) := by
  unfold zCons
  split
  · exact hy
  · exact hx
theorem zor_lt {m i : Nat} (h : m < 2 ^ i) : m ||| 2 ^ i < 2 ^ (i + 1) := by
  apply Nat.or_lt_two_pow
  · rw [Nat.pow_succ]; omega
  · rw [Nat.pow_succ]; have : 0 < 2 ^ i := Nat.two_pow_pos i; omega
theorem zCn_ge {a : zS} {o b : Nat} (h : zCn a o b = true) : 0 ≤ zGn a b := by
  simp only [zCn, Bool.and_eq_true, decide_eq_true_eq] at h
  exact h.2.2
theorem zDfs_ok {a : zS} (ha : zOk a) : ∀ (k : Nat) (x : Int × Nat) (i tf tb : Nat) (gi : Int) (m : Nat), i + k = zNb a → zXok x → 0 ≤ gi → gi ≤ 999 * i → m < 2 ^ i → zXok (zDfs a k x i tf tb gi m) := by
  intro k
  induction k with
  | zero => intro x i tf tb gi m _ hx _ _ _; exact hx
  | succ k ih =>
    intro x i tf tb gi m hk hx h1 h2 h3
    have hnb := ha.2.2.1
    rw [zDfs_s]
    have h4 : m < 2 ^ (i + 1) := by rw [Nat.pow_succ]; omega
    refine ih _ _ _ _ _ _ (by omega) ?_ h1 (by omega) h4
    unfold zSw
    split
    · next hf =>
      simp only [zFitb, Bool.and_eq_true] at hf
      have g1 := zCn_ge hf.2.2
      have g2 := zGn_bnd ha (b := i) (by omega)
      have g3 := zor_lt h3
      have g4 : 2 ^ (i + 1) ≤ 2 ^ 12 := zp2_le (by omega)
      exact ih _ _ _ _ _ _ (by omega) (zCons_ok hx ⟨by show 0 ≤ gi + zGn a i; omega, by show gi + zGn a i ≤ 11988; omega, by show m ||| 2 ^ i < 4096; omega⟩) (by omega) (by omega) g3
    · exact hx
theorem zSw_ok {a : zS} (ha : zOk a) {k : Nat} {x : Int × Nat} {i tf tb : Nat} {gi : Int} {m : Nat} (hk : i + (k + 1) = zNb a) (hx : zXok x) (h1 : 0 ≤ gi) (h2 : gi ≤ 999 * i) (h3 : m < 2 ^ i) : zXok (zSw a k x i tf tb gi m) := by
  unfold zSw
  split
  · next hf =>
    simp only [zFitb, Bool.and_eq_true] at hf
    have hnb := ha.2.2.1
    have g1 := zCn_ge hf.2.2
    have g2 := zGn_bnd ha (b := i) (by omega)
    have g3 := zor_lt h3
    have g4 : 2 ^ (i + 1) ≤ 2 ^ 12 := zp2_le (by omega)
    exact zDfs_ok ha _ _ _ _ _ _ _ (by omega) (zCons_ok hx ⟨by show 0 ≤ gi + zGn a i; omega, by show gi + zGn a i ≤ 11988; omega, by show m ||| 2 ^ i < 4096; omega⟩) (by omega) (by omega) g3
  · exact hx
def zSkM (l : Launch) (g : zG) (q : Nat → Nat) (a : zS) (wb pd gw : Nat → Nat → Int) (k : Nat) : Prop := ∀ (bs : Nat → Int × Nat) (z : Nat) (hz : z < 3) (i tf tb m : Nat) (gi : Int) (hik : i + k = zNb a) (hx : zXok (bs z)) (hg : 0 ≤ gi ∧ gi ≤ 999 * i) (hm : m < 2 ^ i), zM g l yX2_seek wsX2_seek { frames := 2 * k + 3, cells := 0, slots := 0, locals := 55 * k + 66 } [.ref (q 0), .ref (q (9 + z)), .int (nI i), .int (nI tf), .int (nI tb), .int (iZ gi), .int (nI m)] (wB g q a (zG0 a) bs wb pd gw) (zPv (wB g q a (zG0 a) (va_up bs z (zDfs a k (zCons (bs z) (gi, m)) i tf tb gi m)) wb pd gw)) 0 0
def zSwM (l : Launch) (g : zG) (q : Nat → Nat) (a : zS) (wb pd gw : Nat → Nat → Int) (k : Nat) : Prop := ∀ (bs : Nat → Int × Nat) (z : Nat) (hz : z < 3) (i tf tb m : Nat) (gi : Int) (hik : i + (k + 1) = zNb a) (hx : zXok (bs z)) (hg : 0 ≤ gi ∧ gi ≤ 999 * i) (hm : m < 2 ^ i), zM g l yX2_seekWith wsX2_seekWith { frames := 2 * k + 4, cells := 0, slots := 0, locals := 55 * k + 93 } [.ref (q 0), .ref (q (9 + z)), .int (nI i), .int (nI tf), .int (nI tb), .int (iZ gi), .int (nI m)] (wB g q a (zG0 a) bs wb pd gw) (zPv (wB g q a (zG0 a) (va_up bs z (zSw a k (bs z) i tf tb gi m)) wb pd gw)) 0 0
theorem inX2_seekWith_X2 : ∀ w ∈ wsX20, w ∈ wsX2_seekWith := fun w h => List.mem_cons_of_mem _ (List.mem_append_left _ (List.mem_append_right _ (h)))
set_option maxRecDepth 100000 in
set_option maxHeartbeats 4000000 in
theorem c_X2_seekWith (l : Launch) (g : zG) (q : Nat → Nat) (a : zS) (bs : Nat → Int × Nat) (wb pd gw : Nat → Nat → Int) (z : Nat) (ha : zOk a) (hz : z < 3) (k i tf tb m : Nat) (gi : Int) (hik : i + (k + 1) = zNb a) (hx : zXok (bs z)) (hg : 0 ≤ gi ∧ gi ≤ 999 * i) (hm : m < 2 ^ i) (hS : zSkM l g q a wb pd gw k) : zM g l yX2_seekWith wsX2_seekWith { frames := 2 * k + 4, cells := 0, slots := 0, locals := 55 * k + 93 } [.ref (q 0), .ref (q (9 + z)), .int (nI i), .int (nI tf), .int (nI tb), .int (iZ gi), .int (nI m)] (wB g q a (zG0 a) bs wb pd gw) (zPv (wB g q a (zG0 a) (va_up bs z (zSw a k (bs z) i tf tb gi m)) wb pd gw)) 0 0 := by
  refine zM.of (cc := cX2_seekWith) (nL := 9) (ret := none) (lv := [(0, .ref (q 0)), (1, .ref (q (9 + z))), (2, .int (nI i)), (3, .int (nI tf)), (4, .int (nI tb)), (5, .int (iZ gi)), (6, .int (nI m))]) (by decide) rfl (Nat.le_of_ble_eq_true rfl) rfl ?_
  intro E C0 hi
  have C : zC g E cX2_seekWith RX2 wsX2_seekWith 9 none := C0
  obtain ⟨hnf, hnd, hnb, hou, hrs, hbd⟩ := id ha
  have hi12 : i < 12 := by omega
  refine z_iconst C (nI 1) dX2_seekWith_0 (by decide) ?_
  refine z_aload_n C dX2_seekWith_1 0 rfl ?_
  refine z_get C inX2_seekWith_X2 0 wB_o rfl 4 (by decide) (C.w 1 rfl) rfl dX2_seekWith_2 ?_
  refine z_iload_n C dX2_seekWith_5 2 rfl ?_
  refine z_ialdN C 3 wB_ow (by omega) (by decide) dX2_seekWith_6 (v := nI (zOw a i)) rfl ?_
  have f_6b := (ha.ow (b := i) (by omega))
  refine z_ishl C dX2_seekWith_7 (v := nI (2 ^ (zOw a i))) (zshl_1N (by omega)) ?_
  refine z_istore C dX2_seekWith_8 (by decide) [(7, .int (nI (2 ^ (zOw a i)))), (0, .ref (q 0)), (1, .ref (q (9 + z))), (2, .int (nI i)), (3, .int (nI tf)), (4, .int (nI tb)), (5, .int (iZ gi)), (6, .int (nI m))] rfl ?_
  refine z_iload_n C dX2_seekWith_10 4 rfl ?_
  refine z_aload_n C dX2_seekWith_11 1 rfl ?_
  refine z_get C inX2_seekWith_X2 0 wB_o rfl 5 (by decide) (C.w 2 rfl) rfl dX2_seekWith_12 ?_
  refine z_iload_n C dX2_seekWith_15 3 rfl ?_
  refine z_ialdN C 4 wB_bu (by omega) (by decide) dX2_seekWith_16 (v := nI (zBu a i)) rfl ?_
  have f_16b := (ha.bu8 (b := i) (by omega))
  refine z_iand C dX2_seekWith_17 (v := nI (tf &&& (zBu a i))) (zand_NN tf (zBu a i)) ?_
  refine z_if_ne C 29 dX2_seekWith_18 (by decide) (zeq_N0 (by have : tf &&& zBu a i ≤ zBu a i := Nat.and_le_right; have := ha.bu8 (b := i) (by omega); omega)) (fun c_18 => ?_) (fun c_18 => ?_)
  · skip
    refine z_iconst C (nI 1) dX2_seekWith_29 (by decide) ?_
    refine z_goto C 34 dX2_seekWith_30 (by decide) ?_
    refine z_istore C dX2_seekWith_34 (by decide) [(8, .int (nI 1)), (7, .int (nI (2 ^ (zOw a i)))), (0, .ref (q 0)), (1, .ref (q (9 + z))), (2, .int (nI i)), (3, .int (nI tf)), (4, .int (nI tb)), (5, .int (iZ gi)), (6, .int (nI m))] rfl ?_
    refine z_iload C dX2_seekWith_36 0 rfl ?_
    refine z_if_ne C 49 dX2_seekWith_38 (by decide) (zeq_N0 (by omega)) (fun c_38 => ?_) (fun h9 => absurd h9 (by decide))
    exact z_vretP C dX2_seekWith_49 (by rw [show zSw a k (bs z) i tf tb gi m = bs z from if_neg (by simp_all [zFitb]), zup_id])
  · skip
    refine z_iload C dX2_seekWith_21 5 rfl ?_
    refine z_iload C dX2_seekWith_23 0 rfl ?_
    refine z_iand C dX2_seekWith_25 (v := nI (tb &&& (2 ^ (zOw a i)))) (zand_NN tb (2 ^ (zOw a i))) ?_
    refine z_if_eq C 33 dX2_seekWith_26 (by decide) (zbit_0 (by omega)) (fun c_26 => ?_) (fun c_26 => ?_)
    · skip
      refine z_iconst C (nI 0) dX2_seekWith_33 (by decide) ?_
      refine z_istore C dX2_seekWith_34 (by decide) [(8, .int (nI 0)), (7, .int (nI (2 ^ (zOw a i)))), (0, .ref (q 0)), (1, .ref (q (9 + z))), (2, .int (nI i)), (3, .int (nI tf)), (4, .int (nI tb)), (5, .int (iZ gi)), (6, .int (nI m))] rfl ?_
      refine z_iload C dX2_seekWith_36 0 rfl ?_
      refine z_if_ne C 49 dX2_seekWith_38 (by decide) (zeq_N0 (by omega)) (fun h9 => absurd (by decide) h9) (fun c_38 => ?_)
      refine z_aload_n C dX2_seekWith_41 2 rfl ?_
      refine z_iload_n C dX2_seekWith_42 4 rfl ?_
      refine z_callV C (c_X2_counts l g q a bs wb pd gw ha i (by omega)) (cwV 1 C.ts gX2_seekWith_X2_counts rfl rfl rfl (by decide +kernel) ⟨Nat.le_of_ble_eq_true rfl, Nat.le_of_ble_eq_true rfl⟩) wB_o rfl rfl rfl (Nat.le_of_ble_eq_true rfl) dX2_seekWith_43 ⟨Nat.zero_le _, Nat.zero_le _⟩ (z_i ?_)
      refine z_if_ne C 50 dX2_seekWith_46 (by decide) (zeq_B0 _) (fun c_46 => ?_) (fun c_46 => ?_)
      · skip
        have hf9 : zFitb a i tf tb = true := by simp_all [zFitb]
        have hge := zCn_ge (show zCn a (zOu a) i = true by simp_all)
        have hbn := zGn_bnd ha (b := i) (by omega)
        refine z_aload_n C dX2_seekWith_50 2 rfl ?_
        refine z_aload_n C dX2_seekWith_51 3 rfl ?_
        refine z_iload_n C dX2_seekWith_52 4 rfl ?_
        refine z_iconst C (nI 1) dX2_seekWith_53 (by decide) ?_
        refine z_iadd C dX2_seekWith_54 (v := nI (i + 1)) (nI_add i 1) ?_
        refine z_iload_n C dX2_seekWith_55 5 rfl ?_
        refine z_aload_n C dX2_seekWith_56 2 rfl ?_
        refine z_get C inX2_seekWith_X2 0 wB_o rfl 5 (by decide) (C.w 2 rfl) rfl dX2_seekWith_57 ?_
        refine z_iload_n C dX2_seekWith_60 4 rfl ?_
        refine z_ialdN C 4 wB_bu (by omega) (by decide) dX2_seekWith_61 (v := nI (zBu a i)) rfl ?_
        have f_61b := (ha.bu8 (b := i) (by omega))
        refine z_ior C dX2_seekWith_62 (v := nI (tf ||| (zBu a i))) (zor_NN tf (zBu a i)) ?_
        refine z_iload C dX2_seekWith_63 6 rfl ?_
        refine z_iload C dX2_seekWith_65 1 rfl ?_
        refine z_ior C dX2_seekWith_67 (v := nI (tb ||| (2 ^ (zOw a i)))) (zor_NN tb (2 ^ (zOw a i))) ?_
        refine z_iload C dX2_seekWith_68 7 rfl ?_
        refine z_aload_n C dX2_seekWith_70 2 rfl ?_
        refine z_get C inX2_seekWith_X2 0 wB_o rfl 7 (by decide) (C.w 3 rfl) rfl dX2_seekWith_71 ?_
        refine z_iload_n C dX2_seekWith_74 4 rfl ?_
        refine z_ialdN C 6 wB_G (by omega) (by decide) dX2_seekWith_75 (v := iZ ((zG0 a) i)) rfl ?_
        have f_75b := (zG0_bnd ha i)
        refine z_iadd C dX2_seekWith_76 (v := iZ (gi + zGn a i)) (by rw [iZ_add]; simp [zG0, show i < zNb a by omega]) ?_
        refine z_iload C dX2_seekWith_77 8 rfl ?_
        refine z_iconst C (nI 1) dX2_seekWith_79 (by decide) ?_
        refine z_iload_n C dX2_seekWith_80 4 rfl ?_
        refine z_ishl C dX2_seekWith_81 (v := nI (2 ^ i)) (zshl_1N (by omega)) ?_
        refine z_ior C dX2_seekWith_82 (v := nI (m ||| 2 ^ i)) (zor_NN _ _) ?_
        refine z_callV C (hS bs z hz (i + 1) (tf ||| zBu a i) (tb ||| 2 ^ zOw a i) (m ||| 2 ^ i) (gi + zGn a i) (by omega) hx ⟨by omega, by omega⟩ (zor_lt hm)) (cwV 6 C.ts gX2_seekWith_X2_seek rfl rfl rfl (by decide +kernel) ⟨by dsimp only; omega, by dsimp only; omega⟩) wB_o rfl rfl rfl (Nat.le_of_ble_eq_true rfl) dX2_seekWith_83 ⟨Nat.zero_le _, Nat.zero_le _⟩ (z_v ?_)
        exact z_vretP C dX2_seekWith_86 (by rw [show zSw a k (bs z) i tf tb gi m = _ from if_pos hf9])
      · skip
        exact z_vretP C dX2_seekWith_49 (by rw [show zSw a k (bs z) i tf tb gi m = bs z from if_neg (by simp_all [zFitb]), zup_id])
    · skip
      refine z_iconst C (nI 1) dX2_seekWith_29 (by decide) ?_
      refine z_goto C 34 dX2_seekWith_30 (by decide) ?_
      refine z_istore C dX2_seekWith_34 (by decide) [(8, .int (nI 1)), (7, .int (nI (2 ^ (zOw a i)))), (0, .ref (q 0)), (1, .ref (q (9 + z))), (2, .int (nI i)), (3, .int (nI tf)), (4, .int (nI tb)), (5, .int (iZ gi)), (6, .int (nI m))] rfl ?_
      refine z_iload C dX2_seekWith_36 0 rfl ?_
      refine z_if_ne C 49 dX2_seekWith_38 (by decide) (zeq_N0 (by omega)) (fun c_38 => ?_) (fun h9 => absurd h9 (by decide))
      exact z_vretP C dX2_seekWith_49 (by rw [show zSw a k (bs z) i tf tb gi m = bs z from if_neg (by simp_all [zFitb]), zup_id])
theorem inX2_seek_X2 : ∀ w ∈ wsX20, w ∈ wsX2_seek := fun w h => List.mem_cons_of_mem _ (List.mem_append_left _ (List.mem_append_right _ (h)))
set_option maxRecDepth 100000 in
set_option maxHeartbeats 4000000 in
theorem c_X2_seek (l : Launch) (g : zG) (q : Nat → Nat) (a : zS) (bs : Nat → Int × Nat) (wb pd gw : Nat → Nat → Int) (z : Nat) (ha : zOk a) (hz : z < 3) (k i tf tb m : Nat) (gi : Int) (hik : i + k = zNb a) (hx : zXok (bs z)) (hg : 0 ≤ gi ∧ gi ≤ 999 * i) (hm : m < 2 ^ i) (hW : ∀ j, j < k → zSwM l g q a wb pd gw j) : zM g l yX2_seek wsX2_seek { frames := 2 * k + 3, cells := 0, slots := 0, locals := 55 * k + 66 } [.ref (q 0), .ref (q (9 + z)), .int (nI i), .int (nI tf), .int (nI tb), .int (iZ gi), .int (nI m)] (wB g q a (zG0 a) bs wb pd gw) (zPv (wB g q a (zG0 a) (va_up bs z (zDfs a k (zCons (bs z) (gi, m)) i tf tb gi m)) wb pd gw)) 0 0 := by
  refine zM.of (cc := cX2_seek) (nL := 8) (ret := none) (lv := [(0, .ref (q 0)), (1, .ref (q (9 + z))), (2, .int (nI i)), (3, .int (nI tf)), (4, .int (nI tb)), (5, .int (iZ gi)), (6, .int (nI m))]) (by decide) rfl (Nat.le_of_ble_eq_true rfl) rfl ?_
  intro E C0 hi
  have C : zC g E cX2_seek RX2 wsX2_seek 8 none := C0
  obtain ⟨hnf, hnd, hnb, hou, hrs, hbd⟩ := id ha
  have hm12 : 2 ^ i ≤ 2 ^ 12 := zp2_le (by omega)
  have h1 : zB31 gi := by unfold zB31; omega
  have h2 : zB31 (bs z).1 := by have := hx.1; have := hx.2.1; unfold zB31; omega
  have h3 : m < 4096 := by omega
  have h4 := hx.2.2
  have hx0 : zXok (zCons (bs z) (gi, m)) := zCons_ok hx ⟨hg.1, by show gi ≤ 11988; omega, h3⟩
  refine z_aload_n C dX2_seek_0 1 rfl ?_
  refine z_iload C dX2_seek_1 5 rfl ?_
  refine z_iload C dX2_seek_3 6 rfl ?_
  refine z_callVN C (c_X0_consider l g q a bs wb pd gw z hz gi m h1 h2 h3 h4) ⟨va_cnB 2 C.ts ggX2_seek_X0_consider rfl rfl rfl (C.K.2.1 _ (List.mem_of_getElem? (i := 12) rfl)) (C.w 3 rfl) (by decide +kernel) ⟨by dsimp only; omega, by dsimp only; omega⟩, (C.w 2 rfl), (C.w 4 rfl)⟩ (wB_bs (z := z) (by omega)) rfl rfl rfl (Nat.le_of_ble_eq_true rfl) dX2_seek_5 ⟨Nat.zero_le _, Nat.zero_le _⟩ (z_v ?_)
  refine z_iload_n C dX2_seek_8 2 rfl ?_
  refine z_istore C dX2_seek_9 (by decide) [(7, .int (nI i)), (0, .ref (q 0)), (1, .ref (q (9 + z))), (2, .int (nI i)), (3, .int (nI tf)), (4, .int (nI tb)), (5, .int (iZ gi)), (6, .int (nI m))] rfl ?_
  refine zW.pick (lv' := [(0, .ref (q 0)), (1, .ref (q (9 + z))), (2, .int (nI i)), (3, .int (nI tf)), (4, .int (nI tb)), (5, .int (iZ gi)), (6, .int (nI m)), (7, .int (nI i))]) [1, 2, 3, 4, 5, 6, 7, 0] rfl ?_
  have hlp11 : ∀ (kk j : Nat) (x : Int × Nat), j + kk = zNb a → (i ≤ j) → (zXok x) → (zDfs a kk x j tf tb gi m = zDfs a k (zCons (bs z) (gi, m)) i tf tb gi m) → zW g l ({ frames := 2 * k + 3, cells := 0, slots := 0, locals := 55 * k + 66 }) E (zMQ g E (zPv (wB g q a (zG0 a) (va_up bs z (zDfs a k (zCons (bs z) (gi, m)) i tf tb gi m)) wb pd gw)) 0 0) 8 0 0 (wB g q a (zG0 a) (va_up bs z x) wb pd gw) [(0, .ref (q 0)), (1, .ref (q (9 + z))), (2, .int (nI i)), (3, .int (nI tf)), (4, .int (nI tb)), (5, .int (iZ gi)), (6, .int (nI m)), (7, .int (nI j))] [] 11 := by
    intro kk
    induction kk with
    | zero =>
      intro j x hjk hij hxx hr
      refine z_iload C dX2_seek_11 7 rfl ?_
      refine z_aload_n C dX2_seek_13 0 rfl ?_
      refine z_get C inX2_seek_X2 0 wB_o rfl 10 (by decide) (C.w 1 rfl) rfl dX2_seek_14 ?_
      refine z_icmp_ge C 40 dX2_seek_17 (by decide) (zle_NN (by omega) (by omega)) (fun c_17 => ?_) (fun h9 => absurd (by omega) h9)
      exact z_vretP C dX2_seek_40 (by rw [← hr]; rfl)
    | succ kk ih11 =>
      intro j x hjk hij hxx hr
      refine z_iload C dX2_seek_11 7 rfl ?_
      refine z_aload_n C dX2_seek_13 0 rfl ?_
      refine z_get C inX2_seek_X2 0 wB_o rfl 10 (by decide) (C.w 1 rfl) rfl dX2_seek_14 ?_
      refine z_icmp_ge C 40 dX2_seek_17 (by decide) (zle_NN (by omega) (by omega)) (fun h9 => absurd h9 (by omega)) (fun c_17 => ?_)
      refine z_aload_n C dX2_seek_20 0 rfl ?_
      refine z_aload_n C dX2_seek_21 1 rfl ?_
      refine z_iload C dX2_seek_22 7 rfl ?_
      refine z_iload_n C dX2_seek_24 3 rfl ?_
      refine z_iload C dX2_seek_25 4 rfl ?_
      refine z_iload C dX2_seek_27 5 rfl ?_
      refine z_iload C dX2_seek_29 6 rfl ?_
      refine z_callV C (hW kk (by omega) (va_up bs z x) z hz j tf tb m gi (by omega) (by rw [va_up_self]; exact hxx) ⟨hg.1, by omega⟩ (Nat.lt_of_lt_of_le hm (zp2_le (by omega)))) (cwV 6 C.ts gX2_seek_X2_seekWith rfl rfl rfl (by decide +kernel) ⟨by dsimp only; omega, by dsimp only; omega⟩) wB_o rfl rfl rfl (Nat.le_of_ble_eq_true rfl) dX2_seek_31 ⟨Nat.zero_le _, Nat.zero_le _⟩ (z_v ?_)
      rw [bx_uu, va_up_self]
      refine z_iinc C dX2_seek_34 7 (nI (j + 1)) rfl (nI_add j 1) (by decide) [(7, .int (nI (j + 1))), (0, .ref (q 0)), (1, .ref (q (9 + z))), (2, .int (nI i)), (3, .int (nI tf)), (4, .int (nI tb)), (5, .int (iZ gi)), (6, .int (nI m))] rfl ?_
      refine z_goto C 11 dX2_seek_37 (by decide) ?_
      refine zW.pick (lv' := [(0, .ref (q 0)), (1, .ref (q (9 + z))), (2, .int (nI i)), (3, .int (nI tf)), (4, .int (nI tb)), (5, .int (iZ gi)), (6, .int (nI m)), (7, .int (nI (j + 1)))]) [1, 2, 3, 4, 5, 6, 7, 0] rfl ?_
      exact ih11 (j + 1) (zSw a kk x j tf tb gi m) (by omega) (by omega) (zSw_ok ha (by omega) hxx hg.1 (by omega) (Nat.lt_of_lt_of_le hm (zp2_le hij))) hr
  exact hlp11 k i (zCons (bs z) (gi, m)) (by omega) (Nat.le_refl i) hx0 rfl
theorem zSkM_all (l : Launch) (g : zG) (q : Nat → Nat) (a : zS) (wb pd gw : Nat → Nat → Int) (ha : zOk a) : ∀ k, zSkM l g q a wb pd gw k := by
  intro k
  induction k using Nat.strongRecOn with
  | _ k ih => exact fun bs z hz i tf tb m gi hik hx hg hm => c_X2_seek l g q a bs wb pd gw z ha hz k i tf tb m gi hik hx hg hm (fun j hj bs z hz i tf tb m gi hik hx hg hm => c_X2_seekWith l g q a bs wb pd gw z ha hz j i tf tb m gi hik hx hg hm (ih j hj))
end
section
/-- a void answer, of the world only a proposition -/
def zPe (P : va_W → Prop) : Option Value → va_W → Prop := fun v w' => v = none ∧ P w'
theorem z_e {g : zG} {l : Launch} {R : Room} {E : zEnv} {Q : State → Prop} {nL cells slots : Nat} {lv : List (Nat × Value)} {rest : List Value} {pc : Nat} {P : va_W → Prop} (kk : ∀ w', P w' → zW g l R E Q nL cells slots w' lv rest pc) : ∀ v w', zPe P v w' → zW g l R E Q nL (cells + 0) (slots + 0) w' lv (v.toList ++ rest) pc := by
  rintro _ w' ⟨rfl, h⟩; exact kk w' h
theorem z_eret {g : zG} {l : Launch} {R : Room} {E : zEnv} {nL cells slots : Nat} {ws : va_W} {lv : List (Nat × Value)} {pc : Nat} {cc : ByteArray} {own : String} {Ts : List Cond} {P : va_W → Prop} (C : zC g E cc own Ts nL none) (d : decode cc pc = .ok (.return_, 1)) (hp : P ws) : zW g l R E (zMQ g E (zPe P) cells slots) nL cells slots ws lv [] pc := z_vret C d ⟨rfl, hp⟩
theorem zCons_00 : zCons ((0 : Int), (0 : Nat)) (0, 0) = (0, 0) := by decide
/-- the best set of bids, with these bidders taken -/
def zFw (a : zS) (ab : Nat) : Int × Nat := zDfs a (zNb a) (0, 0) 0 0 ab 0 0
theorem zFw_ok {a : zS} (ha : zOk a) (ab : Nat) : zXok (zFw a ab) := zDfs_ok ha _ _ _ _ _ _ _ (by omega) ⟨by decide, by decide, by decide⟩ (by omega) (by omega) (by decide)
def zGw (a : zS) (ab d : Nat) : Int := if d < zNd a then (zFw a (ab ||| 2 ^ d)).1 else 0
/-- the last bid below n that is in m and of the bidder e; -1 without one -/
def zLw (a : zS) (m : Nat) : Nat → Nat → Int
  | 0, _ => -1
  | n + 1, e => if m.testBit n = true ∧ zOw a n = e then (n : Int) else zLw a m n e
def zLp (a : zS) (ab : Nat) : Nat → Nat → Int
  | 0, _ => 0
  | n + 1, e => if (zFw a ab).2.testBit n = true ∧ zOw a n = e then (zRes a (zBu a n) : Int) + zGw a ab e - ((zFw a ab).1 - zGn a n) else zLp a ab n e
/-- a settled sale -/
def zSet (a : zS) (bs : Nat → Int × Nat) (wb pd gw : Nat → Nat → Int) (z ab : Nat) : Prop := bs z = zFw a ab ∧ ∀ d, d < 5 → wb z d = zLw a (zFw a ab).2 (zNb a) d ∧ pd z d = zLp a ab (zNb a) d ∧ gw z d = zGw a ab d
def zSame (z : Nat) (bs : Nat → Int × Nat) (wb pd gw : Nat → Nat → Int) (bs' : Nat → Int × Nat) (wb' pd' gw' : Nat → Nat → Int) : Prop := ∀ y, y < 2 → y ≠ z → bs' y = bs y ∧ wb' y = wb y ∧ pd' y = pd y ∧ gw' y = gw y
def zPst (g : zG) (q : Nat → Nat) (a : zS) (bs : Nat → Int × Nat) (wb pd gw : Nat → Nat → Int) (z ab : Nat) : va_W → Prop := fun w' => ∃ (bs' : Nat → Int × Nat) (wb' pd' gw' : Nat → Nat → Int), w' = wB g q a (zG0 a) bs' wb' pd' gw' ∧ zSet a bs' wb' pd' gw' z ab ∧ zSame z bs wb pd gw bs' wb' pd' gw'
theorem zst_b {bs bs1 : Nat → Int × Nat} {z : Nat} {F : Int × Nat} (hz : z < 2) (h : bs1 z = F ∧ ∀ y, y < 2 → y ≠ z → bs1 y = bs y) (v : Int × Nat) : (va_up bs1 2 v) z = F ∧ ∀ y, y < 2 → y ≠ z → va_up bs1 2 v y = bs y := by
  refine ⟨by rw [va_up_ne _ _ (by omega)]; exact h.1, fun y h1 h2 => by rw [va_up_ne _ _ (by omega)]; exact h.2 y h1 h2⟩
theorem zst_b0 {bs : Nat → Int × Nat} {z : Nat} (F : Int × Nat) : (va_up bs z F) z = F ∧ ∀ y, y < 2 → y ≠ z → va_up bs z F y = bs y := ⟨va_up_self _ _ _, fun y _ h2 => va_up_ne _ _ h2⟩
theorem zst_g0 {gw : Nat → Nat → Int} {z : Nat} (f : Nat → Int) (x : Int) : (∀ e, e < 5 → (va_up gw z (zFil (gw z) 5 x)) z e = if e < 0 then f e else x) ∧ ∀ y, y < 2 → y ≠ z → va_up gw z (zFil (gw z) 5 x) y = gw y := by
  refine ⟨fun e he => ?_, fun y _ h2 => va_up_ne _ _ h2⟩
  rw [va_up_self]
  simp [zFil, he]
theorem zst_g {gw gw1 : Nat → Nat → Int} {z d : Nat} {f : Nat → Int} {v x : Int} (h : (∀ e, e < 5 → gw1 z e = if e < d then f e else x) ∧ ∀ y, y < 2 → y ≠ z → gw1 y = gw y) (hv : v = f d) : (∀ e, e < 5 → (zup2 gw1 z d v) z e = if e < d + 1 then f e else x) ∧ ∀ y, y < 2 → y ≠ z → zup2 gw1 z d v y = gw y := by
  refine ⟨fun e he => ?_, fun y h1 h2 => by unfold zup2; rw [va_up_ne _ _ h2]; exact h.2 y h1 h2⟩
  unfold zup2
  rw [va_up_self]
  by_cases hed : e = d
  · subst hed
    rw [va_up_self, hv, if_pos (by omega)]
  · rw [va_up_ne _ _ hed, h.1 e he]
    by_cases h3 : e < d
    · rw [if_pos h3, if_pos (by omega)]
    · rw [if_neg h3, if_neg (by omega)]
theorem zst_w0 {wb : Nat → Nat → Int} {z : Nat} (f : Nat → Nat → Int) (x : Int) (h0 : ∀ e, f 0 e = x) : (∀ e, e < 5 → (va_up wb z (zFil (wb z) 5 x)) z e = f 0 e) ∧ ∀ y, y < 2 → y ≠ z → va_up wb z (zFil (wb z) 5 x) y = wb y := by
  refine ⟨fun e he => ?_, fun y _ h2 => va_up_ne _ _ h2⟩
  rw [va_up_self, h0]
  simp [zFil, he]
theorem zst_w {wb wb1 : Nat → Nat → Int} {z n o : Nat} {f : Nat → Nat → Int} {v : Int} (h : (∀ e, e < 5 → wb1 z e = f n e) ∧ ∀ y, y < 2 → y ≠ z → wb1 y = wb y) (h1 : f (n + 1) o = v) (h2 : ∀ e, e ≠ o → f (n + 1) e = f n e) : (∀ e, e < 5 → (zup2 wb1 z o v) z e = f (n + 1) e) ∧ ∀ y, y < 2 → y ≠ z → zup2 wb1 z o v y = wb y := by
  refine ⟨fun e he => ?_, fun y h3 h4 => by unfold zup2; rw [va_up_ne _ _ h4]; exact h.2 y h3 h4⟩
  unfold zup2
  rw [va_up_self]
  by_cases hed : e = o
  · subst hed
    rw [va_up_self, h1]
  · rw [va_up_ne _ _ hed, h.1 e he, h2 e hed]
theorem zst_wn {wb wb1 : Nat → Nat → Int} {z n : Nat} {f : Nat → Nat → Int} (h : (∀ e, e < 5 → wb1 z e = f n e) ∧ ∀ y, y < 2 → y ≠ z → wb1 y = wb y) (h2 : ∀ e, f (n + 1) e = f n e) : (∀ e, e < 5 → wb1 z e = f (n + 1) e) ∧ ∀ y, y < 2 → y ≠ z → wb1 y = wb y := ⟨fun e he => by rw [h.1 e he, h2 e], h.2⟩
def zSi (f : Nat → Int) : Nat → Int
  | 0 => 0
  | n + 1 => zSi f n + f n
/-- a price is told: the gains follow -/
theorem zG0_setPr (a : zS) {b : Nat} (hb : b < zNb a) (x : Nat) : va_up (zG0 a) b ((x : Int) - (zRes a (zBu a b) : Int)) = zG0 (zSetPr a b x) := by
  funext j
  by_cases h : j = b
  · subst h
    rw [va_up_self]
    have h1 : zNb (zSetPr a j x) = zNb a := rfl
    unfold zG0
    rw [h1, if_pos hb]
    show _ = ((va_up (zPr a) j x j : Nat) : Int) - (zRes (zSetPr a j x) (zBu (zSetPr a j x) j) : Int)
    rw [va_up_self]
    rfl
  · rw [va_up_ne _ _ h]
    unfold zG0 zGn
    show (if j < zNb a then _ else _) = if j < zNb a then ((va_up (zPr a) b x j : Nat) : Int) - _ else _
    rw [va_up_ne _ _ h]
    rfl
set_option maxRecDepth 100000 in
set_option maxHeartbeats 4000000 in
theorem c_X2_findWinners (l : Launch) (g : zG) (q : Nat → Nat) (a : zS) (bs : Nat → Int × Nat) (wb pd gw : Nat → Nat → Int) (z : Nat) (ha : zOk a) (hz : z < 3) (ab : Nat) : zM g l yX2_findWinners wsX2_findWinners { frames := 28, cells := 0, slots := 0, locals := 753 } [.ref (q 0), .ref (q (9 + z)), .int (nI ab)] (wB g q a (zG0 a) bs wb pd gw) (zPv (wB g q a (zG0 a) (va_up bs z (zFw a ab)) wb pd gw)) 0 0 := by
  refine zM.of (cc := cX2_findWinners) (nL := 3) (ret := none) (lv := [(0, .ref (q 0)), (1, .ref (q (9 + z))), (2, .int (nI ab))]) (by decide) rfl (Nat.le_of_ble_eq_true rfl) rfl ?_
  intro E C0 hi
  have C : zC g E cX2_findWinners RX2 wsX2_findWinners 3 none := C0
  obtain ⟨hnf, hnd, hnb, hou, hrs, hbd⟩ := id ha
  refine z_aload_n C dX2_findWinners_0 1 rfl ?_
  refine z_callVN C (c_X0_clear l g q a bs wb pd gw z (by omega)) ⟨va_cnB 0 C.ts ggX2_findWinners_X0_clear rfl rfl rfl (C.K.2.1 _ (List.mem_of_getElem? (i := 11) rfl)) (C.w 2 rfl) (by decide +kernel) ⟨Nat.le_of_ble_eq_true rfl, Nat.le_of_ble_eq_true rfl⟩, (C.w 1 rfl), (C.w 3 rfl)⟩ (wB_bs (z := z) (by omega)) rfl rfl rfl (Nat.le_of_ble_eq_true rfl) dX2_findWinners_1 ⟨Nat.zero_le _, Nat.zero_le _⟩ (z_v ?_)
  refine z_aload_n C dX2_findWinners_4 0 rfl ?_
  refine z_aload_n C dX2_findWinners_5 1 rfl ?_
  refine z_iconst C (nI 0) dX2_findWinners_6 (by decide) ?_
  refine z_iconst C (nI 0) dX2_findWinners_7 (by decide) ?_
  refine z_iload_n C dX2_findWinners_8 2 rfl ?_
  refine z_iconst C (nI 0) dX2_findWinners_9 (by decide) ?_
  refine z_iconst C (nI 0) dX2_findWinners_10 (by decide) ?_
  refine z_callV C (zSkM_all l g q a wb pd gw ha (zNb a) (va_up bs z (0, 0)) z hz 0 0 ab 0 0 (by omega) (by rw [va_up_self]; exact ⟨by decide, by decide, by decide⟩) ⟨by decide, by decide⟩ (by decide)) (cwV 6 C.ts gX2_findWinners_X2_seek rfl rfl rfl (by decide +kernel) ⟨by dsimp only; omega, by dsimp only; omega⟩) wB_o rfl rfl rfl (Nat.le_of_ble_eq_true rfl) dX2_findWinners_11 ⟨Nat.zero_le _, Nat.zero_le _⟩ (z_v ?_)
  exact z_vretP C dX2_findWinners_14 (by rw [bx_uu, va_up_self, zCons_00]; rfl)
theorem inX2_award_X0 : ∀ w ∈ wsX00, w ∈ wsX2_award := fun w h => List.mem_cons_of_mem _ (List.mem_append_right _ (h))
theorem inX2_award_X1 : ∀ w ∈ wsX10, w ∈ wsX2_award := fun w h => List.mem_cons_of_mem _ (List.mem_append_left _ (List.mem_append_right _ (h)))
theorem inX2_award_X2 : ∀ w ∈ wsX20, w ∈ wsX2_award := fun w h => List.mem_cons_of_mem _ (List.mem_append_left _ (List.mem_append_left _ (List.mem_append_right _ (h))))
set_option maxRecDepth 100000 in
set_option maxHeartbeats 4000000 in
theorem c_X2_award (l : Launch) (g : zG) (q : Nat → Nat) (a : zS) (bs : Nat → Int × Nat) (wb pd gw : Nat → Nat → Int) (z : Nat) (ha : zOk a) (hz : z < 2) (b : Nat) (hb : b < zNb a) : zM g l yX2_award wsX2_award { frames := 2, cells := 0, slots := 0, locals := 44 } [.ref (q 0), .ref (q (12 + z)), .int (nI b)] (wB g q a (zG0 a) bs wb pd gw) (zPv (wB g q a (zG0 a) bs (zup2 wb z (zOw a b) (b : Int)) (zup2 pd z (zOw a b) ((zRes a (zBu a b) : Int) + gw z (zOw a b) - ((bs z).1 - zG0 a b))) gw)) 0 0 := by
  refine zM.of (cc := cX2_award) (nL := 5) (ret := none) (lv := [(0, .ref (q 0)), (1, .ref (q (12 + z))), (2, .int (nI b))]) (by decide) rfl (Nat.le_of_ble_eq_true rfl) rfl ?_
  intro E C0 hi
  have C : zC g E cX2_award RX2 wsX2_award 5 none := C0
  obtain ⟨hnf, hnd, hnb, hou, hrs, hbd⟩ := id ha
  refine z_aload_n C dX2_award_0 0 rfl ?_
  refine z_get C inX2_award_X2 0 wB_o rfl 4 (by decide) (C.w 1 rfl) rfl dX2_award_1 ?_
  refine z_iload_n C dX2_award_4 2 rfl ?_
  refine z_ialdN C 3 wB_ow (by omega) (by decide) dX2_award_5 (v := nI (zOw a b)) rfl ?_
  have f_5b := (ha.ow (b := b) (by omega))
  refine z_istore_n C dX2_award_6 (by decide) [(3, .int (nI (zOw a b))), (0, .ref (q 0)), (1, .ref (q (12 + z))), (2, .int (nI b))] rfl ?_
  refine z_aload_n C dX2_award_7 2 rfl ?_
  refine z_getN C inX2_award_X1 (12 + z) (wB_sl (z := z) hz) rfl 0 (by decide) 2 rfl rfl dX2_award_8 ?_
  refine z_getN C inX2_award_X0 (9 + z) (wB_bs (z := z) (by omega)) rfl 0 (by decide) 0 rfl rfl dX2_award_11 ?_
  refine z_aload_n C dX2_award_14 1 rfl ?_
  refine z_get C inX2_award_X2 0 wB_o rfl 7 (by decide) (C.w 2 rfl) rfl dX2_award_15 ?_
  refine z_iload_n C dX2_award_18 3 rfl ?_
  refine z_ialdN C 6 wB_G (by omega) (by decide) dX2_award_19 (v := iZ ((zG0 a) b)) rfl ?_
  have f_19b := (zG0_bnd ha b)
  refine z_isub C dX2_award_20 (v := iZ (((bs z).1) - ((zG0 a) b))) (iZ_sub ((bs z).1) ((zG0 a) b)) ?_
  refine z_istore C dX2_award_21 (by decide) [(4, .int (iZ (((bs z).1) - ((zG0 a) b)))), (3, .int (nI (zOw a b))), (0, .ref (q 0)), (1, .ref (q (12 + z))), (2, .int (nI b))] rfl ?_
  refine z_aload_n C dX2_award_23 3 rfl ?_
  refine z_getN C inX2_award_X1 (12 + z) (wB_sl (z := z) hz) rfl 1 (by decide) 3 rfl rfl dX2_award_24 ?_
  refine z_iload_n C dX2_award_27 1 rfl ?_
  refine z_iload_n C dX2_award_28 4 rfl ?_
  refine z_iastN C (14 + z) (wB_wb (z := z) hz) (by omega) (by decide) dX2_award_29 (wB_set_wb (z := z) hz (zOw a b) ((b : Nat) : Int)) ?_
  refine z_aload_n C dX2_award_30 3 rfl ?_
  refine z_getN C inX2_award_X1 (12 + z) (wB_sl (z := z) hz) rfl 2 (by decide) 4 rfl rfl dX2_award_31 ?_
  refine z_iload_n C dX2_award_34 1 rfl ?_
  refine z_aload_n C dX2_award_35 2 rfl ?_
  refine z_aload_n C dX2_award_36 2 rfl ?_
  refine z_get C inX2_award_X2 0 wB_o rfl 5 (by decide) (C.w 3 rfl) rfl dX2_award_37 ?_
  refine z_iload_n C dX2_award_40 4 rfl ?_
  refine z_ialdN C 4 wB_bu (by omega) (by decide) dX2_award_41 (v := nI (zBu a b)) rfl ?_
  have f_41b := (ha.bu8 (b := b) (by omega))
  refine z_callV C (c_X2_reservesOf l g q a bs (zup2 wb z (zOw a b) ((b : Nat) : Int)) pd gw (zG0 a) ha (zBu a b)) (cwV 1 C.ts gX2_award_X2_reservesOf rfl rfl rfl (by decide +kernel) ⟨Nat.le_of_ble_eq_true rfl, Nat.le_of_ble_eq_true rfl⟩) wB_o rfl rfl rfl (Nat.le_of_ble_eq_true rfl) dX2_award_42 ⟨Nat.zero_le _, Nat.zero_le _⟩ (z_i ?_)
  refine z_aload_n C dX2_award_45 3 rfl ?_
  refine z_getN C inX2_award_X1 (12 + z) (wB_sl (z := z) hz) rfl 3 (by decide) 5 rfl rfl dX2_award_46 ?_
  refine z_iload_n C dX2_award_49 1 rfl ?_
  refine z_ialdN C (18 + z) (wB_gw (z := z) hz) (by omega) (by decide) dX2_award_50 (v := iZ (gw z (zOw a b))) rfl ?_
  refine z_iadd C dX2_award_51 (v := iZ (((zRes a (zBu a b) : Nat) : Int) + (gw z (zOw a b)))) (iZ_add ((zRes a (zBu a b) : Nat) : Int) (gw z (zOw a b))) ?_
  refine z_iload C dX2_award_52 0 rfl ?_
  refine z_isub C dX2_award_54 (v := iZ ((((zRes a (zBu a b) : Nat) : Int) + (gw z (zOw a b))) - (((bs z).1) - ((zG0 a) b)))) (iZ_sub (((zRes a (zBu a b) : Nat) : Int) + (gw z (zOw a b))) (((bs z).1) - ((zG0 a) b))) ?_
  refine z_iastN C (16 + z) (wB_pd (z := z) hz) (by omega) (by decide) dX2_award_55 (wB_set_pd (z := z) hz (zOw a b) ((((zRes a (zBu a b) : Nat) : Int) + (gw z (zOw a b))) - (((bs z).1) - ((zG0 a) b)))) ?_
  exact z_vretP C dX2_award_56 rfl
theorem inX1_clear_X1 : ∀ w ∈ wsX10, w ∈ wsX1_clear := fun w h => List.mem_cons_of_mem _ (List.mem_append_left _ (List.mem_append_right _ (h)))
set_option maxRecDepth 100000 in
set_option maxHeartbeats 4000000 in
theorem c_X1_clear (l : Launch) (g : zG) (q : Nat → Nat) (a : zS) (bs : Nat → Int × Nat) (wb pd gw : Nat → Nat → Int) (z : Nat) (hz : z < 2) : zM g l yX1_clear wsX1_clear { frames := 1, cells := 0, slots := 0, locals := 23 } [.ref (q (12 + z))] (wB g q a (zG0 a) bs wb pd gw) (zPv (wB g q a (zG0 a) (va_up bs z (0, 0)) (va_up wb z (zFil (wb z) 5 (-1))) (va_up pd z (zFil (pd z) 5 0)) (va_up gw z (zFil (gw z) 5 0)))) 0 0 := by
  refine zM.of (cc := cX1_clear) (nL := 1) (ret := none) (lv := [(0, .ref (q (12 + z)))]) (by decide) rfl (Nat.le_of_ble_eq_true rfl) rfl ?_
  intro E C0 hi
  have C : zC g E cX1_clear RX1 wsX1_clear 1 none := C0
  refine z_aload_n C dX1_clear_0 0 rfl ?_
  refine z_get C inX1_clear_X1 (12 + z) (wB_sl (z := z) hz) rfl 0 (by decide) (C.w 1 rfl) rfl dX1_clear_1 ?_
  refine z_callVN C (c_X0_clear l g q a bs wb pd gw z (by omega)) ⟨va_cnB 0 C.ts ggX1_clear_X0_clear rfl rfl rfl (C.K.2.1 _ (List.mem_of_getElem? (i := 10) rfl)) (C.w 6 rfl) (by decide +kernel) ⟨Nat.le_of_ble_eq_true rfl, Nat.le_of_ble_eq_true rfl⟩, (C.w 5 rfl), (C.w 7 rfl)⟩ (wB_bs (z := z) (by omega)) rfl rfl rfl (Nat.le_of_ble_eq_true rfl) dX1_clear_4 ⟨Nat.zero_le _, Nat.zero_le _⟩ (z_v ?_)
  refine z_aload_n C dX1_clear_7 0 rfl ?_
  refine z_get C inX1_clear_X1 (12 + z) (wB_sl (z := z) hz) rfl 1 (by decide) (C.w 2 rfl) rfl dX1_clear_8 ?_
  refine z_iconst C (iZ (-1)) dX1_clear_11 (by decide) ?_
  refine z_callS C (c_J7_fill_53178 l g (wB g q a (zG0 a) (va_up bs z (0, 0)) wb pd gw) (14 + z) (q (14 + z)) 5 (wb z) ((-1)) (wB_wb hz) (by decide)) (va_cwS 2 C.ts gX1_clear_J7_fill_53178 rfl rfl rfl (by decide +kernel) ⟨Nat.le_of_ble_eq_true rfl, Nat.le_of_ble_eq_true rfl⟩) rfl rfl (Nat.le_of_ble_eq_true rfl) dX1_clear_12 ⟨Nat.zero_le _, Nat.zero_le _⟩ (z_v ?_)
  refine zW.eqw (wB_fil_wb hz _) ?_
  refine z_aload_n C dX1_clear_15 0 rfl ?_
  refine z_get C inX1_clear_X1 (12 + z) (wB_sl (z := z) hz) rfl 2 (by decide) (C.w 3 rfl) rfl dX1_clear_16 ?_
  refine z_iconst C (nI 0) dX1_clear_19 (by decide) ?_
  refine z_callS C (c_J7_fill_53178 l g (wB g q a (zG0 a) (va_up bs z (0, 0)) (va_up wb z (zFil (wb z) 5 ((-1)))) pd gw) (16 + z) (q (16 + z)) 5 (pd z) (0) (wB_pd hz) (by decide)) (va_cwS 2 C.ts gX1_clear_J7_fill_53178 rfl rfl rfl (by decide +kernel) ⟨Nat.le_of_ble_eq_true rfl, Nat.le_of_ble_eq_true rfl⟩) rfl rfl (Nat.le_of_ble_eq_true rfl) dX1_clear_20 ⟨Nat.zero_le _, Nat.zero_le _⟩ (z_v ?_)
  refine zW.eqw (wB_fil_pd hz _) ?_
  refine z_aload_n C dX1_clear_23 0 rfl ?_
  refine z_get C inX1_clear_X1 (12 + z) (wB_sl (z := z) hz) rfl 3 (by decide) (C.w 4 rfl) rfl dX1_clear_24 ?_
  refine z_iconst C (nI 0) dX1_clear_27 (by decide) ?_
  refine z_callS C (c_J7_fill_53178 l g (wB g q a (zG0 a) (va_up bs z (0, 0)) (va_up wb z (zFil (wb z) 5 ((-1)))) (va_up pd z (zFil (pd z) 5 (0))) gw) (18 + z) (q (18 + z)) 5 (gw z) (0) (wB_gw hz) (by decide)) (va_cwS 2 C.ts gX1_clear_J7_fill_53178 rfl rfl rfl (by decide +kernel) ⟨Nat.le_of_ble_eq_true rfl, Nat.le_of_ble_eq_true rfl⟩) rfl rfl (Nat.le_of_ble_eq_true rfl) dX1_clear_28 ⟨Nat.zero_le _, Nat.zero_le _⟩ (z_v ?_)
  refine zW.eqw (wB_fil_gw hz _) ?_
  exact z_vretP C dX1_clear_31 rfl
theorem inX2_settle_X0 : ∀ w ∈ wsX00, w ∈ wsX2_settle := fun w h => List.mem_cons_of_mem _ (List.mem_append_right _ (h))
theorem inX2_settle_X1 : ∀ w ∈ wsX10, w ∈ wsX2_settle := fun w h => List.mem_cons_of_mem _ (List.mem_append_left _ (List.mem_append_left _ (List.mem_append_right _ (h))))
theorem inX2_settle_X2 : ∀ w ∈ wsX20, w ∈ wsX2_settle := fun w h => List.mem_cons_of_mem _ (List.mem_append_left _ (List.mem_append_right _ (h)))
set_option maxRecDepth 100000 in
set_option maxHeartbeats 4000000 in
theorem c_X2_settle (l : Launch) (g : zG) (q : Nat → Nat) (a : zS) (bs : Nat → Int × Nat) (wb pd gw : Nat → Nat → Int) (z : Nat) (ha : zOk a) (hz : z < 2) (ab : Nat) : zM g l yX2_settle wsX2_settle { frames := 29, cells := 0, slots := 0, locals := 775 } [.ref (q 0), .ref (q (12 + z)), .int (nI ab)] (wB g q a (zG0 a) bs wb pd gw) (zPe (zPst g q a bs wb pd gw z ab)) 0 0 := by
  refine zM.of (cc := cX2_settle) (nL := 4) (ret := none) (lv := [(0, .ref (q 0)), (1, .ref (q (12 + z))), (2, .int (nI ab))]) (by decide) rfl (Nat.le_of_ble_eq_true rfl) rfl ?_
  intro E C0 hi
  have C : zC g E cX2_settle RX2 wsX2_settle 4 none := C0
  obtain ⟨hnf, hnd, hnb, hou, hrs, hbd⟩ := id ha
  refine z_aload_n C dX2_settle_0 1 rfl ?_
  refine z_callVN C (c_X1_clear l g q a bs wb pd gw z hz) ⟨va_cnB 0 C.ts ggX2_settle_X1_clear rfl rfl rfl (C.K.2.1 _ (List.mem_of_getElem? (i := 9) rfl)) (C.w 5 rfl) (by decide +kernel) ⟨Nat.le_of_ble_eq_true rfl, Nat.le_of_ble_eq_true rfl⟩, (C.w 4 rfl), (C.w 6 rfl)⟩ (wB_sl (z := z) hz) rfl rfl rfl (Nat.le_of_ble_eq_true rfl) dX2_settle_1 ⟨Nat.zero_le _, Nat.zero_le _⟩ (z_v ?_)
  refine z_aload_n C dX2_settle_4 0 rfl ?_
  refine z_aload_n C dX2_settle_5 1 rfl ?_
  refine z_getN C inX2_settle_X1 (12 + z) (wB_sl (z := z) hz) rfl 0 (by decide) 2 rfl rfl dX2_settle_6 ?_
  refine z_iload_n C dX2_settle_9 2 rfl ?_
  refine z_callV C (c_X2_findWinners l g q a (va_up bs z (0, 0)) (va_up wb z (zFil (wb z) 5 (-1))) (va_up pd z (zFil (pd z) 5 0)) (va_up gw z (zFil (gw z) 5 0)) z ha (by omega) ab) (cwV 2 C.ts gX2_settle_X2_findWinners rfl rfl rfl (by decide +kernel) ⟨Nat.le_of_ble_eq_true rfl, Nat.le_of_ble_eq_true rfl⟩) wB_o rfl rfl rfl (Nat.le_of_ble_eq_true rfl) dX2_settle_10 ⟨Nat.zero_le _, Nat.zero_le _⟩ (z_v ?_)
  refine z_iconst C (nI 0) dX2_settle_13 (by decide) ?_
  refine z_istore_n C dX2_settle_14 (by decide) [(3, .int (nI 0)), (0, .ref (q 0)), (1, .ref (q (12 + z))), (2, .int (nI ab))] rfl ?_
  rw [bx_uu]
  refine zW.pick (lv' := [(0, .ref (q 0)), (1, .ref (q (12 + z))), (2, .int (nI ab)), (3, .int (nI 0))]) [1, 2, 3, 0] rfl ?_
  have hlp15 : ∀ (k d : Nat) (bs1 : Nat → Int × Nat) (gw1 : Nat → Nat → Int), d + k = zNd a → (bs1 z = zFw a ab ∧ ∀ y, y < 2 → y ≠ z → bs1 y = bs y) → ((∀ e, e < 5 → gw1 z e = if e < d then (zFw a (ab ||| 2 ^ e)).1 else 0) ∧ ∀ y, y < 2 → y ≠ z → gw1 y = gw y) → zW g l ({ frames := 29, cells := 0, slots := 0, locals := 775 }) E (zMQ g E (zPe (zPst g q a bs wb pd gw z ab)) 0 0) 4 0 0 (wB g q a (zG0 a) bs1 (va_up wb z (zFil (wb z) 5 (-1))) (va_up pd z (zFil (pd z) 5 0)) gw1) [(0, .ref (q 0)), (1, .ref (q (12 + z))), (2, .int (nI ab)), (3, .int (nI d))] [] 15 := by
    intro k
    induction k with
    | zero =>
      intro d bs1 gw1 hdk hb1 hg1
      refine z_iload_n C dX2_settle_15 3 rfl ?_
      refine z_aload_n C dX2_settle_16 0 rfl ?_
      refine z_get C inX2_settle_X2 0 wB_o rfl 3 (by decide) (C.w 1 rfl) rfl dX2_settle_17 ?_
      refine z_icmp_ge C 55 dX2_settle_20 (by decide) (zle_NN (by omega) (by omega)) (fun c_20 => ?_) (fun h9 => absurd (by omega) h9)
      have hgw : ∀ e, e < 5 → gw1 z e = zGw a ab e := fun e he => by rw [hg1.1 e he, show d = zNd a by omega]; rfl
      refine z_iconst C (nI 0) dX2_settle_55 (by decide) ?_
      refine z_istore_n C dX2_settle_56 (by decide) [(3, .int (nI 0)), (0, .ref (q 0)), (1, .ref (q (12 + z))), (2, .int (nI ab))] rfl ?_
      refine zW.pick (lv' := [(0, .ref (q 0)), (1, .ref (q (12 + z))), (2, .int (nI ab)), (3, .int (nI 0))]) [1, 2, 3, 0] rfl ?_
      have hlp57 : ∀ (kb b : Nat) (wb1 : Nat → Nat → Int) (pd1 : Nat → Nat → Int), b + kb = zNb a → ((∀ e, e < 5 → wb1 z e = zLw a (zFw a ab).2 b e) ∧ ∀ y, y < 2 → y ≠ z → wb1 y = wb y) → ((∀ e, e < 5 → pd1 z e = zLp a ab b e) ∧ ∀ y, y < 2 → y ≠ z → pd1 y = pd y) → zW g l ({ frames := 29, cells := 0, slots := 0, locals := 775 }) E (zMQ g E (zPe (zPst g q a bs wb pd gw z ab)) 0 0) 4 0 0 (wB g q a (zG0 a) bs1 wb1 pd1 gw1) [(0, .ref (q 0)), (1, .ref (q (12 + z))), (2, .int (nI ab)), (3, .int (nI b))] [] 57 := by
        intro kb
        induction kb with
        | zero =>
          intro b wb1 pd1 hbk hw1 hp1
          refine z_iload_n C dX2_settle_57 3 rfl ?_
          refine z_aload_n C dX2_settle_58 0 rfl ?_
          refine z_get C inX2_settle_X2 0 wB_o rfl 10 (by decide) (C.w 3 rfl) rfl dX2_settle_59 ?_
          refine z_icmp_ge C 88 dX2_settle_62 (by decide) (zle_NN (by omega) (by omega)) (fun c_62 => ?_) (fun h9 => absurd (by omega) h9)
          exact z_eret C dX2_settle_88 ⟨_, _, _, _, rfl, ⟨hb1.1, fun e he => ⟨by rw [hw1.1 e he, show b = zNb a by omega], by rw [hp1.1 e he, show b = zNb a by omega], hgw e he⟩⟩, fun y h1 h2 => ⟨hb1.2 y h1 h2, hw1.2 y h1 h2, hp1.2 y h1 h2, hg1.2 y h1 h2⟩⟩
        | succ kb ih57 =>
          intro b wb1 pd1 hbk hw1 hp1
          refine z_iload_n C dX2_settle_57 3 rfl ?_
          refine z_aload_n C dX2_settle_58 0 rfl ?_
          refine z_get C inX2_settle_X2 0 wB_o rfl 10 (by decide) (C.w 3 rfl) rfl dX2_settle_59 ?_
          refine z_icmp_ge C 88 dX2_settle_62 (by decide) (zle_NN (by omega) (by omega)) (fun h9 => absurd h9 (by omega)) (fun c_62 => ?_)
          refine z_aload_n C dX2_settle_65 1 rfl ?_
          refine z_getN C inX2_settle_X1 (12 + z) (wB_sl (z := z) hz) rfl 0 (by decide) 2 rfl rfl dX2_settle_66 ?_
          refine z_iload_n C dX2_settle_69 3 rfl ?_
          refine z_callVN C (c_X0_has l g q a bs1 wb1 pd1 gw1 z (by omega) b (by omega)) ⟨va_cnB 1 C.ts ggX2_settle_X0_has rfl rfl rfl (C.K.2.1 _ (List.mem_of_getElem? (i := 13) rfl)) (C.w 13 rfl) (by decide +kernel) ⟨Nat.le_of_ble_eq_true rfl, Nat.le_of_ble_eq_true rfl⟩, (C.w 58 rfl), (C.w 59 rfl)⟩ (wB_bs (z := z) (by omega)) rfl rfl rfl (Nat.le_of_ble_eq_true rfl) dX2_settle_70 ⟨Nat.zero_le _, Nat.zero_le _⟩ (z_i ?_)
          refine z_if_eq C 82 dX2_settle_73 (by decide) (zeq_B0 _) (fun c_73 => ?_) (fun c_73 => ?_)
          · skip
            have hw9 := zst_wn (f := zLw a (zFw a ab).2) (n := b) hw1 (fun e => if_neg (by rw [← hb1.1]; simp_all))
            have hp9 := zst_wn (f := zLp a ab) (n := b) hp1 (fun e => if_neg (by rw [← hb1.1]; simp_all))
            refine z_iinc C dX2_settle_82 3 (nI (b + 1)) rfl (nI_add b 1) (by decide) [(3, .int (nI (b + 1))), (0, .ref (q 0)), (1, .ref (q (12 + z))), (2, .int (nI ab))] rfl ?_
            refine z_goto C 57 dX2_settle_85 (by decide) ?_
            refine zW.pick (lv' := [(0, .ref (q 0)), (1, .ref (q (12 + z))), (2, .int (nI ab)), (3, .int (nI (b + 1)))]) [1, 2, 3, 0] rfl ?_
            exact ih57 (b + 1) wb1 pd1 (by omega) hw9 hp9
          · skip
            have how := ha.ow (b := b) (by omega)
            refine z_aload_n C dX2_settle_76 0 rfl ?_
            refine z_aload_n C dX2_settle_77 1 rfl ?_
            refine z_iload_n C dX2_settle_78 3 rfl ?_
            refine z_callV C (c_X2_award l g q a bs1 wb1 pd1 gw1 z ha hz b (by omega)) (cwV 2 C.ts gX2_settle_X2_award rfl rfl rfl (by decide +kernel) ⟨Nat.le_of_ble_eq_true rfl, Nat.le_of_ble_eq_true rfl⟩) wB_o rfl rfl rfl (Nat.le_of_ble_eq_true rfl) dX2_settle_79 ⟨Nat.zero_le _, Nat.zero_le _⟩ (z_v ?_)
            have htb : (zFw a ab).2.testBit b = true := by rw [← hb1.1]; simpa using c_73
            have hw9 := zst_w (f := zLw a (zFw a ab).2) (n := b) (o := zOw a b) hw1 (if_pos ⟨htb, rfl⟩) (fun e he => if_neg (fun h9 => he h9.2.symm))
            have hp9 := zst_w (f := zLp a ab) (n := b) (o := zOw a b) (v := (zRes a (zBu a b) : Int) + gw1 z (zOw a b) - ((bs1 z).1 - zG0 a b)) hp1 (by rw [hb1.1, hgw _ (by omega)]; unfold zG0; rw [if_pos (show b < zNb a by omega)]; exact if_pos ⟨htb, rfl⟩) (fun e he => if_neg (fun h9 => he h9.2.symm))
            refine z_iinc C dX2_settle_82 3 (nI (b + 1)) rfl (nI_add b 1) (by decide) [(3, .int (nI (b + 1))), (0, .ref (q 0)), (1, .ref (q (12 + z))), (2, .int (nI ab))] rfl ?_
            refine z_goto C 57 dX2_settle_85 (by decide) ?_
            refine zW.pick (lv' := [(0, .ref (q 0)), (1, .ref (q (12 + z))), (2, .int (nI ab)), (3, .int (nI (b + 1)))]) [1, 2, 3, 0] rfl ?_
            exact ih57 (b + 1) (zup2 wb1 z (zOw a b) ((b : Nat) : Int)) (zup2 pd1 z (zOw a b) ((zRes a (zBu a b) : Int) + gw1 z (zOw a b) - ((bs1 z).1 - zG0 a b))) (by omega) hw9 hp9
      exact hlp57 (zNb a) 0 (va_up wb z (zFil (wb z) 5 (-1))) (va_up pd z (zFil (pd z) 5 0)) (by omega) (zst_w0 (zLw a (zFw a ab).2) (-1) (fun _ => rfl)) (zst_w0 (zLp a ab) 0 (fun _ => rfl))
    | succ k ih15 =>
      intro d bs1 gw1 hdk hb1 hg1
      refine z_iload_n C dX2_settle_15 3 rfl ?_
      refine z_aload_n C dX2_settle_16 0 rfl ?_
      refine z_get C inX2_settle_X2 0 wB_o rfl 3 (by decide) (C.w 1 rfl) rfl dX2_settle_17 ?_
      refine z_icmp_ge C 55 dX2_settle_20 (by decide) (zle_NN (by omega) (by omega)) (fun h9 => absurd h9 (by omega)) (fun c_20 => ?_)
      refine z_aload_n C dX2_settle_23 0 rfl ?_
      refine z_aload_n C dX2_settle_24 0 rfl ?_
      refine z_get C inX2_settle_X2 0 wB_o rfl 13 (by decide) (C.w 2 rfl) rfl dX2_settle_25 ?_
      refine z_iload_n C dX2_settle_28 2 rfl ?_
      refine z_iconst C (nI 1) dX2_settle_29 (by decide) ?_
      refine z_iload_n C dX2_settle_30 3 rfl ?_
      refine z_ishl C dX2_settle_31 (v := nI (2 ^ d)) (zshl_1N (by omega)) ?_
      refine z_ior C dX2_settle_32 (v := nI (ab ||| (2 ^ d))) (zor_NN ab (2 ^ d)) ?_
      refine z_callV C (c_X2_findWinners l g q a bs1 (va_up wb z (zFil (wb z) 5 (-1))) (va_up pd z (zFil (pd z) 5 0)) gw1 2 ha (by decide) (ab ||| (2 ^ d))) (cwV 2 C.ts gX2_settle_X2_findWinners rfl rfl rfl (by decide +kernel) ⟨Nat.le_of_ble_eq_true rfl, Nat.le_of_ble_eq_true rfl⟩) wB_o rfl rfl rfl (Nat.le_of_ble_eq_true rfl) dX2_settle_33 ⟨Nat.zero_le _, Nat.zero_le _⟩ (z_v ?_)
      refine z_aload_n C dX2_settle_36 1 rfl ?_
      refine z_getN C inX2_settle_X1 (12 + z) (wB_sl (z := z) hz) rfl 3 (by decide) 5 rfl rfl dX2_settle_37 ?_
      refine z_iload_n C dX2_settle_40 3 rfl ?_
      refine z_aload_n C dX2_settle_41 0 rfl ?_
      refine z_get C inX2_settle_X2 0 wB_o rfl 13 (by decide) (C.w 2 rfl) rfl dX2_settle_42 ?_
      refine z_getN C inX2_settle_X0 (9 + 2) (wB_bs (z := 2) (by decide)) rfl 0 (by decide) 0 rfl rfl dX2_settle_45 ?_
      refine z_iastN C (18 + z) (wB_gw (z := z) hz) (by omega) (by decide) dX2_settle_48 (wB_set_gw (z := z) hz d (((va_up bs1 2 (zFw a (ab ||| (2 ^ d)))) 2).1)) ?_
      refine z_iinc C dX2_settle_49 3 (nI (d + 1)) rfl (nI_add d 1) (by decide) [(3, .int (nI (d + 1))), (0, .ref (q 0)), (1, .ref (q (12 + z))), (2, .int (nI ab))] rfl ?_
      refine z_goto C 15 dX2_settle_52 (by decide) ?_
      refine zW.pick (lv' := [(0, .ref (q 0)), (1, .ref (q (12 + z))), (2, .int (nI ab)), (3, .int (nI (d + 1)))]) [1, 2, 3, 0] rfl ?_
      exact ih15 (d + 1) (va_up bs1 2 (zFw a (ab ||| (2 ^ d)))) (zup2 gw1 z d (((va_up bs1 2 (zFw a (ab ||| (2 ^ d)))) 2).1)) (by omega) (zst_b (by omega) hb1 _) (zst_g (f := fun e => (zFw a (ab ||| 2 ^ e)).1) hg1 (by rw [va_up_self]))
  exact hlp15 (zNd a) 0 (va_up bs z (zFw a ab)) (va_up gw z (zFil (gw z) 5 0)) (by omega) (zst_b0 _) (zst_g0 (fun e => (zFw a (ab ||| 2 ^ e)).1) 0)
end
section
/-- what a winning bid brings its bidder -/
def zPfv (a : zS) (w p : Int) : Int := if w = -1 then 0 else (zWo a w.toNat : Int) - p
def zOrs (f : Nat → Nat) : Nat → Nat
  | 0 => 0
  | n + 1 => zOrs f n ||| f n
/-- of the bids below n for which p holds, the one with the highest price, of several the first; -1 without one -/
def zHi (a : zS) (p : Nat → Bool) : Nat → Int
  | 0 => -1
  | n + 1 => if p n = true ∧ (zHi a p n = -1 ∨ zPr a (zHi a p n).toNat < zPr a n) then (n : Int) else zHi a p n
theorem zHi_or (a : zS) (p : Nat → Bool) (n : Nat) : zHi a p n = -1 ∨ ∃ c, c < n ∧ zHi a p n = (c : Int) ∧ p c = true := by
  induction n with
  | zero => exact Or.inl rfl
  | succ n ih =>
    unfold zHi
    split
    · next h => exact Or.inr ⟨n, by omega, rfl, h.1⟩
    · rcases ih with h | ⟨c, h1, h2, h3⟩
      · exact Or.inl h
      · exact Or.inr ⟨c, by omega, h2, h3⟩
theorem zFst_or (p : Nat → Bool) : ∀ (k i : Nat), zFst p i k = -1 ∨ ∃ c, c < i + k ∧ zFst p i k = (c : Int) ∧ p c = true := by
  intro k
  induction k with
  | zero => exact fun _ => Or.inl rfl
  | succ k ih =>
    intro i
    unfold zFst
    split
    · next h => exact Or.inr ⟨i, by omega, rfl, h⟩
    · rcases ih (i + 1) with h | ⟨c, h1, h2⟩
      · exact Or.inl h
      · exact Or.inr ⟨c, by omega, h2⟩
theorem zLw_or (a : zS) (m : Nat) (e : Nat) : ∀ n, zLw a m n e = -1 ∨ ∃ c, c < n ∧ zLw a m n e = (c : Int) ∧ m.testBit c = true ∧ zOw a c = e := by
  intro n
  induction n with
  | zero => exact Or.inl rfl
  | succ n ih =>
    unfold zLw
    split
    · next h => exact Or.inr ⟨n, by omega, rfl, h⟩
    · rcases ih with h | ⟨c, h1, h2⟩
      · exact Or.inl h
      · exact Or.inr ⟨c, by omega, h2⟩
/-- who competes for the field f alone, the bidder lo left out -/
def zCo (a : zS) (f : Nat) (lo : Int) (b : Nat) : Bool := zCn a (zOu a) b && (decide (zBu a b = 2 ^ f) && decide ((zOw a b : Int) ≠ lo))
theorem inX2_profit_X1 : ∀ w ∈ wsX10, w ∈ wsX2_profit := fun w h => List.mem_cons_of_mem _ (List.mem_append_left _ (List.mem_append_right _ (h)))
set_option maxRecDepth 100000 in
set_option maxHeartbeats 4000000 in
theorem c_X2_profit_no (l : Launch) (g : zG) (q : Nat → Nat) (a : zS) (bs : Nat → Int × Nat) (wb pd gw : Nat → Nat → Int) (z : Nat) (ha : zOk a) (hz : z < 2) (d : Nat) (hd : d < 5) (hw : wb z d = -1) : zM g l yX2_profit wsX2_profit { frames := 0, cells := 0, slots := 0, locals := 0 } [.ref (q 0), .ref (q (12 + z)), .int (nI d)] (wB g q a (zG0 a) bs wb pd gw) (zPi (iZ (zPfv a (wb z d) (pd z d))) (wB g q a (zG0 a) bs wb pd gw)) 0 0 := by
  refine zM.of (cc := cX2_profit) (nL := 4) (ret := (some .int)) (lv := [(0, .ref (q 0)), (1, .ref (q (12 + z))), (2, .int (nI d))]) (by decide) rfl (Nat.le_of_ble_eq_true rfl) rfl ?_
  intro E C0 hi
  have C : zC g E cX2_profit RX2 wsX2_profit 4 (some .int) := C0
  obtain ⟨hnf, hnd, hnb, hou, hrs, hbd⟩ := id ha
  refine z_aload_n C dX2_profit_0 1 rfl ?_
  refine z_getN C inX2_profit_X1 (12 + z) (wB_sl (z := z) hz) rfl 1 (by decide) 3 rfl rfl dX2_profit_1 ?_
  refine z_iload_n C dX2_profit_4 2 rfl ?_
  refine z_ialdN C (14 + z) (wB_wb (z := z) hz) (by omega) (by decide) dX2_profit_5 (v := iZ (wb z d)) rfl ?_
  refine zW.top (y := iZ (-1)) (by rw [hw]) ?_
  refine z_istore_n C dX2_profit_6 (by decide) [(3, .int (iZ (-1))), (0, .ref (q 0)), (1, .ref (q (12 + z))), (2, .int (nI d))] rfl ?_
  refine z_iload_n C dX2_profit_7 0 rfl ?_
  refine z_iconst C (iZ (-1)) dX2_profit_8 (by decide) ?_
  refine z_icmp_ne C 16 dX2_profit_9 (by decide) (zeq_ZZ (x := (-1)) (y := (-1)) (by unfold zB31; omega) (by unfold zB31; omega)) (fun h9 => absurd (by decide) h9) (fun c_9 => ?_)
  refine z_iconst C (nI 0) dX2_profit_12 (by decide) ?_
  refine z_goto C 29 dX2_profit_13 (by decide) ?_
  exact z_iretP C dX2_profit_29 (by rw [hw]; rfl) rfl
theorem inX2_profit_X2 : ∀ w ∈ wsX20, w ∈ wsX2_profit := fun w h => List.mem_cons_of_mem _ (List.mem_append_right _ (h))
set_option maxRecDepth 100000 in
set_option maxHeartbeats 4000000 in
theorem c_X2_profit_b (l : Launch) (g : zG) (q : Nat → Nat) (a : zS) (bs : Nat → Int × Nat) (wb pd gw : Nat → Nat → Int) (z : Nat) (ha : zOk a) (hz : z < 2) (d : Nat) (hd : d < 5) (c : Nat) (hc : c < zNb a) (hw : wb z d = (c : Int)) : zM g l yX2_profit wsX2_profit { frames := 0, cells := 0, slots := 0, locals := 0 } [.ref (q 0), .ref (q (12 + z)), .int (nI d)] (wB g q a (zG0 a) bs wb pd gw) (zPi (iZ (zPfv a (wb z d) (pd z d))) (wB g q a (zG0 a) bs wb pd gw)) 0 0 := by
  refine zM.of (cc := cX2_profit) (nL := 4) (ret := (some .int)) (lv := [(0, .ref (q 0)), (1, .ref (q (12 + z))), (2, .int (nI d))]) (by decide) rfl (Nat.le_of_ble_eq_true rfl) rfl ?_
  intro E C0 hi
  have C : zC g E cX2_profit RX2 wsX2_profit 4 (some .int) := C0
  obtain ⟨hnf, hnd, hnb, hou, hrs, hbd⟩ := id ha
  refine z_aload_n C dX2_profit_0 1 rfl ?_
  refine z_getN C inX2_profit_X1 (12 + z) (wB_sl (z := z) hz) rfl 1 (by decide) 3 rfl rfl dX2_profit_1 ?_
  refine z_iload_n C dX2_profit_4 2 rfl ?_
  refine z_ialdN C (14 + z) (wB_wb (z := z) hz) (by omega) (by decide) dX2_profit_5 (v := iZ (wb z d)) rfl ?_
  refine zW.top (y := nI c) (by rw [hw]; rfl) ?_
  refine z_istore_n C dX2_profit_6 (by decide) [(3, .int (nI c)), (0, .ref (q 0)), (1, .ref (q (12 + z))), (2, .int (nI d))] rfl ?_
  refine z_iload_n C dX2_profit_7 0 rfl ?_
  refine z_iconst C (iZ (-1)) dX2_profit_8 (by decide) ?_
  refine z_icmp_ne C 16 dX2_profit_9 (by decide) (zeq_ZZ (x := ((c : Nat) : Int)) (y := (-1)) (by unfold zB31; omega) (by unfold zB31; omega)) (fun c_9 => ?_) (fun h9 => absurd h9 (by omega))
  refine z_aload_n C dX2_profit_16 1 rfl ?_
  refine z_get C inX2_profit_X2 0 wB_o rfl 8 (by decide) (C.w 1 rfl) rfl dX2_profit_17 ?_
  refine z_iload_n C dX2_profit_20 0 rfl ?_
  refine z_ialdN C 7 wB_wo (by omega) (by decide) dX2_profit_21 (v := nI (zWo a c)) rfl ?_
  have f_21b := (ha.wo (b := c) (by omega))
  refine z_aload_n C dX2_profit_22 2 rfl ?_
  refine z_getN C inX2_profit_X1 (12 + z) (wB_sl (z := z) hz) rfl 2 (by decide) 4 rfl rfl dX2_profit_23 ?_
  refine z_iload_n C dX2_profit_26 3 rfl ?_
  refine z_ialdN C (16 + z) (wB_pd (z := z) hz) (by omega) (by decide) dX2_profit_27 (v := iZ (pd z d)) rfl ?_
  refine z_isub C dX2_profit_28 (v := iZ (((zWo a c : Nat) : Int) - (pd z d))) (iZ_sub ((zWo a c : Nat) : Int) (pd z d)) ?_
  exact z_iretP C dX2_profit_29 (by rw [hw]; unfold zPfv; rw [if_neg (by omega)]; rfl) rfl
theorem c_X2_profit (l : Launch) (g : zG) (q : Nat → Nat) (a : zS) (bs : Nat → Int × Nat) (wb pd gw : Nat → Nat → Int) (z : Nat) (ha : zOk a) (hz : z < 2) (d : Nat) (hd : d < 5) (hw : wb z d = -1 ∨ ∃ c, c < zNb a ∧ wb z d = (c : Int)) : zM g l yX2_profit wsX2_profit { frames := 0, cells := 0, slots := 0, locals := 0 } [.ref (q 0), .ref (q (12 + z)), .int (nI d)] (wB g q a (zG0 a) bs wb pd gw) (zPi (iZ (zPfv a (wb z d) (pd z d))) (wB g q a (zG0 a) bs wb pd gw)) 0 0 := by
  rcases hw with h | ⟨c, hc, h⟩
  · exact c_X2_profit_no l g q a bs wb pd gw z ha hz d hd h
  · exact c_X2_profit_b l g q a bs wb pd gw z ha hz d hd c hc h
theorem inX1_totalPaid_X1 : ∀ w ∈ wsX10, w ∈ wsX1_totalPaid := fun w h => List.mem_cons_of_mem _ (List.mem_append_right _ (h))
set_option maxRecDepth 100000 in
set_option maxHeartbeats 4000000 in
theorem c_X1_totalPaid (l : Launch) (g : zG) (q : Nat → Nat) (a : zS) (bs : Nat → Int × Nat) (wb pd gw : Nat → Nat → Int) (z : Nat) (hz : z < 2) : zM g l yX1_totalPaid wsX1_totalPaid { frames := 0, cells := 0, slots := 0, locals := 0 } [.ref (q (12 + z))] (wB g q a (zG0 a) bs wb pd gw) (zPi (iZ (zSi (pd z) 5)) (wB g q a (zG0 a) bs wb pd gw)) 0 0 := by
  refine zM.of (cc := cX1_totalPaid) (nL := 6) (ret := (some .int)) (lv := [(0, .ref (q (12 + z)))]) (by decide) rfl (Nat.le_of_ble_eq_true rfl) rfl ?_
  intro E C0 hi
  have C : zC g E cX1_totalPaid RX1 wsX1_totalPaid 6 (some .int) := C0
  refine z_iconst C (nI 0) dX1_totalPaid_0 (by decide) ?_
  refine z_istore_n C dX1_totalPaid_1 (by decide) [(1, .int (nI 0)), (0, .ref (q (12 + z)))] rfl ?_
  refine z_aload_n C dX1_totalPaid_2 1 rfl ?_
  refine z_get C inX1_totalPaid_X1 (12 + z) (wB_sl (z := z) hz) rfl 2 (by decide) (C.w 1 rfl) rfl dX1_totalPaid_3 ?_
  refine z_astore_n C dX1_totalPaid_6 (by decide) [(2, .ref (q (16 + z))), (1, .int (nI 0)), (0, .ref (q (12 + z)))] rfl ?_
  refine z_aload_n C dX1_totalPaid_7 0 rfl ?_
  refine z_alenI C (16 + z) (wB_pd (z := z) hz) dX1_totalPaid_8 ?_
  refine z_istore_n C dX1_totalPaid_9 (by decide) [(3, .int (nI 5)), (2, .ref (q (16 + z))), (1, .int (nI 0)), (0, .ref (q (12 + z)))] rfl ?_
  refine z_iconst C (nI 0) dX1_totalPaid_10 (by decide) ?_
  refine z_istore C dX1_totalPaid_11 (by decide) [(4, .int (nI 0)), (3, .int (nI 5)), (2, .ref (q (16 + z))), (1, .int (nI 0)), (0, .ref (q (12 + z)))] rfl ?_
  refine zW.pick (lv' := [(0, .ref (q (12 + z))), (1, .int (nI 0)), (2, .ref (q (16 + z))), (3, .int (nI 5)), (4, .int (nI 0))]) [4, 3, 2, 1, 0] rfl ?_
  have hlp13 : ∀ (k i : Nat), i + k = 5 → zW g l ({ frames := 0, cells := 0, slots := 0, locals := 0 }) E (zMQ g E (zPi (iZ (zSi (pd z) 5)) (wB g q a (zG0 a) bs wb pd gw)) 0 0) 6 0 0 (wB g q a (zG0 a) bs wb pd gw) [(0, .ref (q (12 + z))), (1, .int (iZ (zSi (pd z) i))), (2, .ref (q (16 + z))), (3, .int (nI 5)), (4, .int (nI i))] [] 13 := by
    intro k
    induction k with
    | zero =>
      intro i hik
      refine z_iload C dX1_totalPaid_13 4 rfl ?_
      refine z_iload_n C dX1_totalPaid_15 3 rfl ?_
      refine z_icmp_ge C 36 dX1_totalPaid_16 (by decide) (zle_NN (by omega) (by omega)) (fun c_16 => ?_) (fun h9 => absurd (by omega) h9)
      refine z_iload_n C dX1_totalPaid_36 1 rfl ?_
      exact z_iretP C dX1_totalPaid_37 (by rw [show i = 5 by omega]) rfl
    | succ k ih13 =>
      intro i hik
      refine z_iload C dX1_totalPaid_13 4 rfl ?_
      refine z_iload_n C dX1_totalPaid_15 3 rfl ?_
      refine z_icmp_ge C 36 dX1_totalPaid_16 (by decide) (zle_NN (by omega) (by omega)) (fun h9 => absurd h9 (by omega)) (fun c_16 => ?_)
      refine z_aload_n C dX1_totalPaid_19 2 rfl ?_
      refine z_iload C dX1_totalPaid_20 4 rfl ?_
      refine z_ialdN C (16 + z) (wB_pd (z := z) hz) (by omega) (by decide) dX1_totalPaid_22 (v := iZ (pd z i)) rfl ?_
      refine z_istore C dX1_totalPaid_23 (by decide) [(5, .int (iZ (pd z i))), (0, .ref (q (12 + z))), (1, .int (iZ (zSi (pd z) i))), (2, .ref (q (16 + z))), (3, .int (nI 5)), (4, .int (nI i))] rfl ?_
      refine z_iload_n C dX1_totalPaid_25 2 rfl ?_
      refine z_iload C dX1_totalPaid_26 0 rfl ?_
      refine z_iadd C dX1_totalPaid_28 (v := iZ ((zSi (pd z) i) + (pd z i))) (iZ_add (zSi (pd z) i) (pd z i)) ?_
      refine z_istore_n C dX1_totalPaid_29 (by decide) [(1, .int (iZ ((zSi (pd z) i) + (pd z i)))), (5, .int (iZ (pd z i))), (0, .ref (q (12 + z))), (2, .ref (q (16 + z))), (3, .int (nI 5)), (4, .int (nI i))] rfl ?_
      refine z_iinc C dX1_totalPaid_30 5 (nI (i + 1)) rfl (nI_add i 1) (by decide) [(4, .int (nI (i + 1))), (1, .int (iZ ((zSi (pd z) i) + (pd z i)))), (5, .int (iZ (pd z i))), (0, .ref (q (12 + z))), (2, .ref (q (16 + z))), (3, .int (nI 5))] rfl ?_
      refine z_goto C 13 dX1_totalPaid_33 (by decide) ?_
      refine zW.pick (lv' := [(0, .ref (q (12 + z))), (1, .int (iZ ((zSi (pd z) i) + (pd z i)))), (2, .ref (q (16 + z))), (3, .int (nI 5)), (4, .int (nI (i + 1)))]) [3, 1, 4, 5, 0] rfl ?_
      refine zW.lve (lv' := [(0, .ref (q (12 + z))), (1, .int (iZ (zSi (pd z) (i + 1)))), (2, .ref (q (16 + z))), (3, .int (nI 5)), (4, .int (nI (i + 1)))]) (rfl) ?_
      exact ih13 (i + 1) (by omega)
  exact hlp13 (5) 0 (by omega)
theorem inX2_totalProfit_X2 : ∀ w ∈ wsX20, w ∈ wsX2_totalProfit := fun w h => List.mem_cons_of_mem _ (List.mem_append_left _ (List.mem_append_right _ (h)))
set_option maxRecDepth 100000 in
set_option maxHeartbeats 4000000 in
theorem c_X2_totalProfit (l : Launch) (g : zG) (q : Nat → Nat) (a : zS) (bs : Nat → Int × Nat) (wb pd gw : Nat → Nat → Int) (ha : zOk a) (hw : ∀ d, d < 5 → wb 0 d = -1 ∨ ∃ c, c < zNb a ∧ wb 0 d = (c : Int)) : zM g l yX2_totalProfit wsX2_totalProfit { frames := 1, cells := 0, slots := 0, locals := 23 } [.ref (q 0)] (wB g q a (zG0 a) bs wb pd gw) (zPi (iZ (zSi (fun d => zPfv a (wb 0 d) (pd 0 d)) (zNd a))) (wB g q a (zG0 a) bs wb pd gw)) 0 0 := by
  refine zM.of (cc := cX2_totalProfit) (nL := 3) (ret := (some .int)) (lv := [(0, .ref (q 0))]) (by decide) rfl (Nat.le_of_ble_eq_true rfl) rfl ?_
  intro E C0 hi
  have C : zC g E cX2_totalProfit RX2 wsX2_totalProfit 3 (some .int) := C0
  obtain ⟨hnf, hnd, hnb, hou, hrs, hbd⟩ := id ha
  refine z_iconst C (nI 0) dX2_totalProfit_0 (by decide) ?_
  refine z_istore_n C dX2_totalProfit_1 (by decide) [(1, .int (nI 0)), (0, .ref (q 0))] rfl ?_
  refine z_iconst C (nI 0) dX2_totalProfit_2 (by decide) ?_
  refine z_istore_n C dX2_totalProfit_3 (by decide) [(2, .int (nI 0)), (1, .int (nI 0)), (0, .ref (q 0))] rfl ?_
  refine zW.pick (lv' := [(0, .ref (q 0)), (1, .int (nI 0)), (2, .int (nI 0))]) [2, 1, 0] rfl ?_
  have hlp4 : ∀ (k i : Nat), i + k = zNd a → zW g l ({ frames := 1, cells := 0, slots := 0, locals := 23 }) E (zMQ g E (zPi (iZ (zSi (fun d => zPfv a (wb 0 d) (pd 0 d)) (zNd a))) (wB g q a (zG0 a) bs wb pd gw)) 0 0) 3 0 0 (wB g q a (zG0 a) bs wb pd gw) [(0, .ref (q 0)), (1, .int (iZ (zSi (fun d => zPfv a (wb 0 d) (pd 0 d)) i))), (2, .int (nI i))] [] 4 := by
    intro k
    induction k with
    | zero =>
      intro i hik
      refine z_iload_n C dX2_totalProfit_4 2 rfl ?_
      refine z_aload_n C dX2_totalProfit_5 0 rfl ?_
      refine z_get C inX2_totalProfit_X2 0 wB_o rfl 3 (by decide) (C.w 1 rfl) rfl dX2_totalProfit_6 ?_
      refine z_icmp_ge C 30 dX2_totalProfit_9 (by decide) (zle_NN (by omega) (by omega)) (fun c_9 => ?_) (fun h9 => absurd (by omega) h9)
      refine z_iload_n C dX2_totalProfit_30 1 rfl ?_
      exact z_iretP C dX2_totalProfit_31 (by rw [show i = zNd a by omega]) rfl
    | succ k ih4 =>
      intro i hik
      refine z_iload_n C dX2_totalProfit_4 2 rfl ?_
      refine z_aload_n C dX2_totalProfit_5 0 rfl ?_
      refine z_get C inX2_totalProfit_X2 0 wB_o rfl 3 (by decide) (C.w 1 rfl) rfl dX2_totalProfit_6 ?_
      refine z_icmp_ge C 30 dX2_totalProfit_9 (by decide) (zle_NN (by omega) (by omega)) (fun h9 => absurd h9 (by omega)) (fun c_9 => ?_)
      refine z_iload_n C dX2_totalProfit_12 1 rfl ?_
      refine z_aload_n C dX2_totalProfit_13 0 rfl ?_
      refine z_aload_n C dX2_totalProfit_14 0 rfl ?_
      refine z_get C inX2_totalProfit_X2 0 wB_o rfl 11 (by decide) (C.w 2 rfl) rfl dX2_totalProfit_15 ?_
      refine z_iload_n C dX2_totalProfit_18 2 rfl ?_
      refine z_callV C (c_X2_profit l g q a bs wb pd gw 0 ha (by decide) i (by omega) (hw _ (by omega))) (cwV 2 C.ts gX2_totalProfit_X2_profit rfl rfl rfl (by decide +kernel) ⟨Nat.le_of_ble_eq_true rfl, Nat.le_of_ble_eq_true rfl⟩) wB_o rfl rfl rfl (Nat.le_of_ble_eq_true rfl) dX2_totalProfit_19 ⟨Nat.zero_le _, Nat.zero_le _⟩ (z_i ?_)
      refine z_iadd C dX2_totalProfit_22 (v := iZ ((zSi (fun d => zPfv a (wb 0 d) (pd 0 d)) i) + (zPfv a (wb 0 i) (pd 0 i)))) (iZ_add (zSi (fun d => zPfv a (wb 0 d) (pd 0 d)) i) (zPfv a (wb 0 i) (pd 0 i))) ?_
      refine z_istore_n C dX2_totalProfit_23 (by decide) [(1, .int (iZ ((zSi (fun d => zPfv a (wb 0 d) (pd 0 d)) i) + (zPfv a (wb 0 i) (pd 0 i))))), (0, .ref (q 0)), (2, .int (nI i))] rfl ?_
      refine z_iinc C dX2_totalProfit_24 2 (nI (i + 1)) rfl (nI_add i 1) (by decide) [(2, .int (nI (i + 1))), (1, .int (iZ ((zSi (fun d => zPfv a (wb 0 d) (pd 0 d)) i) + (zPfv a (wb 0 i) (pd 0 i))))), (0, .ref (q 0))] rfl ?_
      refine z_goto C 4 dX2_totalProfit_27 (by decide) ?_
      refine zW.pick (lv' := [(0, .ref (q 0)), (1, .int (iZ ((zSi (fun d => zPfv a (wb 0 d) (pd 0 d)) i) + (zPfv a (wb 0 i) (pd 0 i))))), (2, .int (nI (i + 1)))]) [2, 1, 0] rfl ?_
      refine zW.lve (lv' := [(0, .ref (q 0)), (1, .int (iZ (zSi (fun d => zPfv a (wb 0 d) (pd 0 d)) (i + 1)))), (2, .int (nI (i + 1)))]) (rfl) ?_
      exact ih4 (i + 1) (by omega)
  exact hlp4 (zNd a) 0 (by omega)
theorem inX2_winningPrices_X1 : ∀ w ∈ wsX10, w ∈ wsX2_winningPrices := fun w h => List.mem_cons_of_mem _ (List.mem_append_left _ (List.mem_append_right _ (h)))
theorem inX2_winningPrices_X2 : ∀ w ∈ wsX20, w ∈ wsX2_winningPrices := fun w h => List.mem_cons_of_mem _ (List.mem_append_left _ (List.mem_append_left _ (List.mem_append_right _ (h))))
set_option maxRecDepth 100000 in
set_option maxHeartbeats 4000000 in
theorem c_X2_winningPrices (l : Launch) (g : zG) (q : Nat → Nat) (a : zS) (bs : Nat → Int × Nat) (wb pd gw : Nat → Nat → Int) (ha : zOk a) : zM g l yX2_winningPrices wsX2_winningPrices { frames := 1, cells := 0, slots := 0, locals := 21 } [.ref (q 0)] (wB g q a (zG0 a) bs wb pd gw) (zPi (nI (zSum (fun b => if (bs 0).2.testBit b = true then zPr a b else 0) (zNb a))) (wB g q a (zG0 a) bs wb pd gw)) 0 0 := by
  refine zM.of (cc := cX2_winningPrices) (nL := 3) (ret := (some .int)) (lv := [(0, .ref (q 0))]) (by decide) rfl (Nat.le_of_ble_eq_true rfl) rfl ?_
  intro E C0 hi
  have C : zC g E cX2_winningPrices RX2 wsX2_winningPrices 3 (some .int) := C0
  obtain ⟨hnf, hnd, hnb, hou, hrs, hbd⟩ := id ha
  refine z_iconst C (nI 0) dX2_winningPrices_0 (by decide) ?_
  refine z_istore_n C dX2_winningPrices_1 (by decide) [(1, .int (nI 0)), (0, .ref (q 0))] rfl ?_
  refine z_iconst C (nI 0) dX2_winningPrices_2 (by decide) ?_
  refine z_istore_n C dX2_winningPrices_3 (by decide) [(2, .int (nI 0)), (1, .int (nI 0)), (0, .ref (q 0))] rfl ?_
  refine zW.pick (lv' := [(0, .ref (q 0)), (1, .int (nI 0)), (2, .int (nI 0))]) [2, 1, 0] rfl ?_
  have hlp4 : ∀ (k i : Nat), i + k = zNb a → zW g l ({ frames := 1, cells := 0, slots := 0, locals := 21 }) E (zMQ g E (zPi (nI (zSum (fun b => if (bs 0).2.testBit b = true then zPr a b else 0) (zNb a))) (wB g q a (zG0 a) bs wb pd gw)) 0 0) 3 0 0 (wB g q a (zG0 a) bs wb pd gw) [(0, .ref (q 0)), (1, .int (nI (zSum (fun b => if (bs 0).2.testBit b = true then zPr a b else 0) i))), (2, .int (nI i))] [] 4 := by
    intro k
    induction k with
    | zero =>
      intro i hik
      refine z_iload_n C dX2_winningPrices_4 2 rfl ?_
      refine z_aload_n C dX2_winningPrices_5 0 rfl ?_
      refine z_get C inX2_winningPrices_X2 0 wB_o rfl 10 (by decide) (C.w 1 rfl) rfl dX2_winningPrices_6 ?_
      refine z_icmp_ge C 41 dX2_winningPrices_9 (by decide) (zle_NN (by omega) (by omega)) (fun c_9 => ?_) (fun h9 => absurd (by omega) h9)
      refine z_iload_n C dX2_winningPrices_41 1 rfl ?_
      exact z_iretP C dX2_winningPrices_42 (by rw [show i = zNb a by omega]) rfl
    | succ k ih4 =>
      intro i hik
      refine z_iload_n C dX2_winningPrices_4 2 rfl ?_
      refine z_aload_n C dX2_winningPrices_5 0 rfl ?_
      refine z_get C inX2_winningPrices_X2 0 wB_o rfl 10 (by decide) (C.w 1 rfl) rfl dX2_winningPrices_6 ?_
      refine z_icmp_ge C 41 dX2_winningPrices_9 (by decide) (zle_NN (by omega) (by omega)) (fun h9 => absurd h9 (by omega)) (fun c_9 => ?_)
      refine z_aload_n C dX2_winningPrices_12 0 rfl ?_
      refine z_get C inX2_winningPrices_X2 0 wB_o rfl 11 (by decide) (C.w 2 rfl) rfl dX2_winningPrices_13 ?_
      refine z_getN C inX2_winningPrices_X1 (12 + 0) (wB_sl (z := 0) (by decide)) rfl 0 (by decide) 2 rfl rfl dX2_winningPrices_16 ?_
      refine z_iload_n C dX2_winningPrices_19 2 rfl ?_
      refine z_callVN C (c_X0_has l g q a bs wb pd gw 0 (by decide) i (by omega)) ⟨va_cnB 1 C.ts ggX2_winningPrices_X0_has rfl rfl rfl (C.K.2.1 _ (List.mem_of_getElem? (i := 13) rfl)) (C.w 5 rfl) (by decide +kernel) ⟨Nat.le_of_ble_eq_true rfl, Nat.le_of_ble_eq_true rfl⟩, (C.w 4 rfl), (C.w 6 rfl)⟩ (wB_bs (z := 0) (by decide)) rfl rfl rfl (Nat.le_of_ble_eq_true rfl) dX2_winningPrices_20 ⟨Nat.zero_le _, Nat.zero_le _⟩ (z_i ?_)
      refine z_if_eq C 35 dX2_winningPrices_23 (by decide) (zeq_B0 _) (fun c_23 => ?_) (fun c_23 => ?_)
      · skip
        refine z_iinc C dX2_winningPrices_35 2 (nI (i + 1)) rfl (nI_add i 1) (by decide) [(2, .int (nI (i + 1))), (0, .ref (q 0)), (1, .int (nI (zSum (fun b => if (bs 0).2.testBit b = true then zPr a b else 0) i)))] rfl ?_
        refine z_goto C 4 dX2_winningPrices_38 (by decide) ?_
        refine zW.pick (lv' := [(0, .ref (q 0)), (1, .int (nI (zSum (fun b => if (bs 0).2.testBit b = true then zPr a b else 0) i))), (2, .int (nI (i + 1)))]) [1, 2, 0] rfl ?_
        refine zW.lve (lv' := [(0, .ref (q 0)), (1, .int (nI (zSum (fun b => if (bs 0).2.testBit b = true then zPr a b else 0) (i + 1)))), (2, .int (nI (i + 1)))]) (by simp [zSum, c_23]) ?_
        exact ih4 (i + 1) (by omega)
      · skip
        refine z_iload_n C dX2_winningPrices_26 1 rfl ?_
        refine z_aload_n C dX2_winningPrices_27 0 rfl ?_
        refine z_get C inX2_winningPrices_X2 0 wB_o rfl 6 (by decide) (C.w 3 rfl) rfl dX2_winningPrices_28 ?_
        refine z_iload_n C dX2_winningPrices_31 2 rfl ?_
        refine z_ialdN C 5 wB_pr (by omega) (by decide) dX2_winningPrices_32 (v := nI (zPr a i)) rfl ?_
        have f_32b := (ha.pr (b := i) (by omega))
        refine z_iadd C dX2_winningPrices_33 (v := nI ((zSum (fun b => if (bs 0).2.testBit b = true then zPr a b else 0) i) + (zPr a i))) (nI_add (zSum (fun b => if (bs 0).2.testBit b = true then zPr a b else 0) i) (zPr a i)) ?_
        refine z_istore_n C dX2_winningPrices_34 (by decide) [(1, .int (nI ((zSum (fun b => if (bs 0).2.testBit b = true then zPr a b else 0) i) + (zPr a i)))), (0, .ref (q 0)), (2, .int (nI i))] rfl ?_
        refine z_iinc C dX2_winningPrices_35 2 (nI (i + 1)) rfl (nI_add i 1) (by decide) [(2, .int (nI (i + 1))), (1, .int (nI ((zSum (fun b => if (bs 0).2.testBit b = true then zPr a b else 0) i) + (zPr a i)))), (0, .ref (q 0))] rfl ?_
        refine z_goto C 4 dX2_winningPrices_38 (by decide) ?_
        refine zW.pick (lv' := [(0, .ref (q 0)), (1, .int (nI ((zSum (fun b => if (bs 0).2.testBit b = true then zPr a b else 0) i) + (zPr a i)))), (2, .int (nI (i + 1)))]) [2, 1, 0] rfl ?_
        refine zW.lve (lv' := [(0, .ref (q 0)), (1, .int (nI (zSum (fun b => if (bs 0).2.testBit b = true then zPr a b else 0) (i + 1)))), (2, .int (nI (i + 1)))]) (by simp [zSum, c_23]) ?_
        exact ih4 (i + 1) (by omega)
  exact hlp4 (zNb a) 0 (by omega)
theorem inX2_soldFields_X1 : ∀ w ∈ wsX10, w ∈ wsX2_soldFields := fun w h => List.mem_cons_of_mem _ (List.mem_append_left _ (List.mem_append_right _ (h)))
theorem inX2_soldFields_X2 : ∀ w ∈ wsX20, w ∈ wsX2_soldFields := fun w h => List.mem_cons_of_mem _ (List.mem_append_left _ (List.mem_append_left _ (List.mem_append_right _ (h))))
set_option maxRecDepth 100000 in
set_option maxHeartbeats 4000000 in
theorem c_X2_soldFields (l : Launch) (g : zG) (q : Nat → Nat) (a : zS) (bs : Nat → Int × Nat) (wb pd gw : Nat → Nat → Int) (ha : zOk a) : zM g l yX2_soldFields wsX2_soldFields { frames := 1, cells := 0, slots := 0, locals := 21 } [.ref (q 0)] (wB g q a (zG0 a) bs wb pd gw) (zPi (nI (zOrs (fun b => if (bs 0).2.testBit b = true then zBu a b else 0) (zNb a))) (wB g q a (zG0 a) bs wb pd gw)) 0 0 := by
  refine zM.of (cc := cX2_soldFields) (nL := 3) (ret := (some .int)) (lv := [(0, .ref (q 0))]) (by decide) rfl (Nat.le_of_ble_eq_true rfl) rfl ?_
  intro E C0 hi
  have C : zC g E cX2_soldFields RX2 wsX2_soldFields 3 (some .int) := C0
  obtain ⟨hnf, hnd, hnb, hou, hrs, hbd⟩ := id ha
  refine z_iconst C (nI 0) dX2_soldFields_0 (by decide) ?_
  refine z_istore_n C dX2_soldFields_1 (by decide) [(1, .int (nI 0)), (0, .ref (q 0))] rfl ?_
  refine z_iconst C (nI 0) dX2_soldFields_2 (by decide) ?_
  refine z_istore_n C dX2_soldFields_3 (by decide) [(2, .int (nI 0)), (1, .int (nI 0)), (0, .ref (q 0))] rfl ?_
  refine zW.pick (lv' := [(0, .ref (q 0)), (1, .int (nI 0)), (2, .int (nI 0))]) [2, 1, 0] rfl ?_
  have hlp4 : ∀ (k i : Nat), i + k = zNb a → zW g l ({ frames := 1, cells := 0, slots := 0, locals := 21 }) E (zMQ g E (zPi (nI (zOrs (fun b => if (bs 0).2.testBit b = true then zBu a b else 0) (zNb a))) (wB g q a (zG0 a) bs wb pd gw)) 0 0) 3 0 0 (wB g q a (zG0 a) bs wb pd gw) [(0, .ref (q 0)), (1, .int (nI (zOrs (fun b => if (bs 0).2.testBit b = true then zBu a b else 0) i))), (2, .int (nI i))] [] 4 := by
    intro k
    induction k with
    | zero =>
      intro i hik
      refine z_iload_n C dX2_soldFields_4 2 rfl ?_
      refine z_aload_n C dX2_soldFields_5 0 rfl ?_
      refine z_get C inX2_soldFields_X2 0 wB_o rfl 10 (by decide) (C.w 1 rfl) rfl dX2_soldFields_6 ?_
      refine z_icmp_ge C 41 dX2_soldFields_9 (by decide) (zle_NN (by omega) (by omega)) (fun c_9 => ?_) (fun h9 => absurd (by omega) h9)
      refine z_iload_n C dX2_soldFields_41 1 rfl ?_
      exact z_iretP C dX2_soldFields_42 (by rw [show i = zNb a by omega]) rfl
    | succ k ih4 =>
      intro i hik
      refine z_iload_n C dX2_soldFields_4 2 rfl ?_
      refine z_aload_n C dX2_soldFields_5 0 rfl ?_
      refine z_get C inX2_soldFields_X2 0 wB_o rfl 10 (by decide) (C.w 1 rfl) rfl dX2_soldFields_6 ?_
      refine z_icmp_ge C 41 dX2_soldFields_9 (by decide) (zle_NN (by omega) (by omega)) (fun h9 => absurd h9 (by omega)) (fun c_9 => ?_)
      refine z_aload_n C dX2_soldFields_12 0 rfl ?_
      refine z_get C inX2_soldFields_X2 0 wB_o rfl 11 (by decide) (C.w 2 rfl) rfl dX2_soldFields_13 ?_
      refine z_getN C inX2_soldFields_X1 (12 + 0) (wB_sl (z := 0) (by decide)) rfl 0 (by decide) 2 rfl rfl dX2_soldFields_16 ?_
      refine z_iload_n C dX2_soldFields_19 2 rfl ?_
      refine z_callVN C (c_X0_has l g q a bs wb pd gw 0 (by decide) i (by omega)) ⟨va_cnB 1 C.ts ggX2_soldFields_X0_has rfl rfl rfl (C.K.2.1 _ (List.mem_of_getElem? (i := 13) rfl)) (C.w 5 rfl) (by decide +kernel) ⟨Nat.le_of_ble_eq_true rfl, Nat.le_of_ble_eq_true rfl⟩, (C.w 4 rfl), (C.w 6 rfl)⟩ (wB_bs (z := 0) (by decide)) rfl rfl rfl (Nat.le_of_ble_eq_true rfl) dX2_soldFields_20 ⟨Nat.zero_le _, Nat.zero_le _⟩ (z_i ?_)
      refine z_if_eq C 35 dX2_soldFields_23 (by decide) (zeq_B0 _) (fun c_23 => ?_) (fun c_23 => ?_)
      · skip
        refine z_iinc C dX2_soldFields_35 2 (nI (i + 1)) rfl (nI_add i 1) (by decide) [(2, .int (nI (i + 1))), (0, .ref (q 0)), (1, .int (nI (zOrs (fun b => if (bs 0).2.testBit b = true then zBu a b else 0) i)))] rfl ?_
        refine z_goto C 4 dX2_soldFields_38 (by decide) ?_
        refine zW.pick (lv' := [(0, .ref (q 0)), (1, .int (nI (zOrs (fun b => if (bs 0).2.testBit b = true then zBu a b else 0) i))), (2, .int (nI (i + 1)))]) [1, 2, 0] rfl ?_
        refine zW.lve (lv' := [(0, .ref (q 0)), (1, .int (nI (zOrs (fun b => if (bs 0).2.testBit b = true then zBu a b else 0) (i + 1)))), (2, .int (nI (i + 1)))]) (by simp [zOrs, c_23]) ?_
        exact ih4 (i + 1) (by omega)
      · skip
        refine z_iload_n C dX2_soldFields_26 1 rfl ?_
        refine z_aload_n C dX2_soldFields_27 0 rfl ?_
        refine z_get C inX2_soldFields_X2 0 wB_o rfl 5 (by decide) (C.w 3 rfl) rfl dX2_soldFields_28 ?_
        refine z_iload_n C dX2_soldFields_31 2 rfl ?_
        refine z_ialdN C 4 wB_bu (by omega) (by decide) dX2_soldFields_32 (v := nI (zBu a i)) rfl ?_
        have f_32b := (ha.bu8 (b := i) (by omega))
        refine z_ior C dX2_soldFields_33 (v := nI ((zOrs (fun b => if (bs 0).2.testBit b = true then zBu a b else 0) i) ||| (zBu a i))) (zor_NN (zOrs (fun b => if (bs 0).2.testBit b = true then zBu a b else 0) i) (zBu a i)) ?_
        refine z_istore_n C dX2_soldFields_34 (by decide) [(1, .int (nI ((zOrs (fun b => if (bs 0).2.testBit b = true then zBu a b else 0) i) ||| (zBu a i)))), (0, .ref (q 0)), (2, .int (nI i))] rfl ?_
        refine z_iinc C dX2_soldFields_35 2 (nI (i + 1)) rfl (nI_add i 1) (by decide) [(2, .int (nI (i + 1))), (1, .int (nI ((zOrs (fun b => if (bs 0).2.testBit b = true then zBu a b else 0) i) ||| (zBu a i)))), (0, .ref (q 0))] rfl ?_
        refine z_goto C 4 dX2_soldFields_38 (by decide) ?_
        refine zW.pick (lv' := [(0, .ref (q 0)), (1, .int (nI ((zOrs (fun b => if (bs 0).2.testBit b = true then zBu a b else 0) i) ||| (zBu a i)))), (2, .int (nI (i + 1)))]) [2, 1, 0] rfl ?_
        refine zW.lve (lv' := [(0, .ref (q 0)), (1, .int (nI (zOrs (fun b => if (bs 0).2.testBit b = true then zBu a b else 0) (i + 1)))), (2, .int (nI (i + 1)))]) (by simp [zOrs, c_23]) ?_
        exact ih4 (i + 1) (by omega)
  exact hlp4 (zNb a) 0 (by omega)
theorem inX2_winnerOfField_X1 : ∀ w ∈ wsX10, w ∈ wsX2_winnerOfField := fun w h => List.mem_cons_of_mem _ (List.mem_append_left _ (List.mem_append_right _ (h)))
theorem inX2_winnerOfField_X2 : ∀ w ∈ wsX20, w ∈ wsX2_winnerOfField := fun w h => List.mem_cons_of_mem _ (List.mem_append_left _ (List.mem_append_left _ (List.mem_append_right _ (h))))
set_option maxRecDepth 100000 in
set_option maxHeartbeats 4000000 in
theorem c_X2_winnerOfField (l : Launch) (g : zG) (q : Nat → Nat) (a : zS) (bs : Nat → Int × Nat) (wb pd gw : Nat → Nat → Int) (ha : zOk a) (f : Nat) (hf : f < 8) : zM g l yX2_winnerOfField wsX2_winnerOfField { frames := 1, cells := 0, slots := 0, locals := 21 } [.ref (q 0), .int (nI f)] (wB g q a (zG0 a) bs wb pd gw) (zPi (iZ (zFst (fun b => (bs 0).2.testBit b && (zBu a b).testBit f) 0 (zNb a))) (wB g q a (zG0 a) bs wb pd gw)) 0 0 := by
  refine zM.of (cc := cX2_winnerOfField) (nL := 3) (ret := (some .int)) (lv := [(0, .ref (q 0)), (1, .int (nI f))]) (by decide) rfl (Nat.le_of_ble_eq_true rfl) rfl ?_
  intro E C0 hi
  have C : zC g E cX2_winnerOfField RX2 wsX2_winnerOfField 3 (some .int) := C0
  obtain ⟨hnf, hnd, hnb, hou, hrs, hbd⟩ := id ha
  refine z_iconst C (nI 0) dX2_winnerOfField_0 (by decide) ?_
  refine z_istore_n C dX2_winnerOfField_1 (by decide) [(2, .int (nI 0)), (0, .ref (q 0)), (1, .int (nI f))] rfl ?_
  refine zW.pick (lv' := [(0, .ref (q 0)), (1, .int (nI f)), (2, .int (nI 0))]) [1, 2, 0] rfl ?_
  have hlp2 : ∀ (k i : Nat), i + k = zNb a → (zFst (fun b => (bs 0).2.testBit b && (zBu a b).testBit f) i k = zFst (fun b => (bs 0).2.testBit b && (zBu a b).testBit f) 0 (zNb a)) → zW g l ({ frames := 1, cells := 0, slots := 0, locals := 21 }) E (zMQ g E (zPi (iZ (zFst (fun b => (bs 0).2.testBit b && (zBu a b).testBit f) 0 (zNb a))) (wB g q a (zG0 a) bs wb pd gw)) 0 0) 3 0 0 (wB g q a (zG0 a) bs wb pd gw) [(0, .ref (q 0)), (1, .int (nI f)), (2, .int (nI i))] [] 2 := by
    intro k
    induction k with
    | zero =>
      intro i hik hr
      refine z_iload_n C dX2_winnerOfField_2 2 rfl ?_
      refine z_aload_n C dX2_winnerOfField_3 0 rfl ?_
      refine z_get C inX2_winnerOfField_X2 0 wB_o rfl 10 (by decide) (C.w 1 rfl) rfl dX2_winnerOfField_4 ?_
      refine z_icmp_ge C 45 dX2_winnerOfField_7 (by decide) (zle_NN (by omega) (by omega)) (fun c_7 => ?_) (fun h9 => absurd (by omega) h9)
      refine z_iconst C (iZ (-1)) dX2_winnerOfField_45 (by decide) ?_
      exact z_iretP C dX2_winnerOfField_46 (by rw [← hr]; rfl) rfl
    | succ k ih2 =>
      intro i hik hr
      refine z_iload_n C dX2_winnerOfField_2 2 rfl ?_
      refine z_aload_n C dX2_winnerOfField_3 0 rfl ?_
      refine z_get C inX2_winnerOfField_X2 0 wB_o rfl 10 (by decide) (C.w 1 rfl) rfl dX2_winnerOfField_4 ?_
      refine z_icmp_ge C 45 dX2_winnerOfField_7 (by decide) (zle_NN (by omega) (by omega)) (fun h9 => absurd h9 (by omega)) (fun c_7 => ?_)
      refine z_aload_n C dX2_winnerOfField_10 0 rfl ?_
      refine z_get C inX2_winnerOfField_X2 0 wB_o rfl 11 (by decide) (C.w 2 rfl) rfl dX2_winnerOfField_11 ?_
      refine z_getN C inX2_winnerOfField_X1 (12 + 0) (wB_sl (z := 0) (by decide)) rfl 0 (by decide) 2 rfl rfl dX2_winnerOfField_14 ?_
      refine z_iload_n C dX2_winnerOfField_17 2 rfl ?_
      refine z_callVN C (c_X0_has l g q a bs wb pd gw 0 (by decide) i (by omega)) ⟨va_cnB 1 C.ts ggX2_winnerOfField_X0_has rfl rfl rfl (C.K.2.1 _ (List.mem_of_getElem? (i := 13) rfl)) (C.w 5 rfl) (by decide +kernel) ⟨Nat.le_of_ble_eq_true rfl, Nat.le_of_ble_eq_true rfl⟩, (C.w 4 rfl), (C.w 6 rfl)⟩ (wB_bs (z := 0) (by decide)) rfl rfl rfl (Nat.le_of_ble_eq_true rfl) dX2_winnerOfField_18 ⟨Nat.zero_le _, Nat.zero_le _⟩ (z_i ?_)
      refine z_if_eq C 39 dX2_winnerOfField_21 (by decide) (zeq_B0 _) (fun c_21 => ?_) (fun c_21 => ?_)
      · skip
        refine z_iinc C dX2_winnerOfField_39 2 (nI (i + 1)) rfl (nI_add i 1) (by decide) [(2, .int (nI (i + 1))), (0, .ref (q 0)), (1, .int (nI f))] rfl ?_
        refine z_goto C 2 dX2_winnerOfField_42 (by decide) ?_
        refine zW.pick (lv' := [(0, .ref (q 0)), (1, .int (nI f)), (2, .int (nI (i + 1)))]) [1, 2, 0] rfl ?_
        exact ih2 (i + 1) (by omega) (by rw [← hr]; simp_all [zFst])
      · skip
        refine z_aload_n C dX2_winnerOfField_24 0 rfl ?_
        refine z_get C inX2_winnerOfField_X2 0 wB_o rfl 5 (by decide) (C.w 3 rfl) rfl dX2_winnerOfField_25 ?_
        refine z_iload_n C dX2_winnerOfField_28 2 rfl ?_
        refine z_ialdN C 4 wB_bu (by omega) (by decide) dX2_winnerOfField_29 (v := nI (zBu a i)) rfl ?_
        have f_29b := (ha.bu8 (b := i) (by omega))
        refine z_iload_n C dX2_winnerOfField_30 1 rfl ?_
        refine z_callS C (c_X2_hasField l g (wB g q a (zG0 a) bs wb pd gw) (zBu a i) f (by omega)) (va_cwS 2 C.ts gX2_winnerOfField_X2_hasField rfl rfl rfl (by decide +kernel) ⟨Nat.le_of_ble_eq_true rfl, Nat.le_of_ble_eq_true rfl⟩) rfl rfl (Nat.le_of_ble_eq_true rfl) dX2_winnerOfField_31 ⟨Nat.zero_le _, Nat.zero_le _⟩ (z_i ?_)
        refine z_if_eq C 39 dX2_winnerOfField_34 (by decide) (zeq_B0 _) (fun c_34 => ?_) (fun c_34 => ?_)
        · skip
          refine z_iinc C dX2_winnerOfField_39 2 (nI (i + 1)) rfl (nI_add i 1) (by decide) [(2, .int (nI (i + 1))), (0, .ref (q 0)), (1, .int (nI f))] rfl ?_
          refine z_goto C 2 dX2_winnerOfField_42 (by decide) ?_
          refine zW.pick (lv' := [(0, .ref (q 0)), (1, .int (nI f)), (2, .int (nI (i + 1)))]) [1, 2, 0] rfl ?_
          exact ih2 (i + 1) (by omega) (by rw [← hr]; simp_all [zFst])
        · skip
          refine z_iload_n C dX2_winnerOfField_37 2 rfl ?_
          exact z_iretP C dX2_winnerOfField_38 (by rw [← hr]; simp [zFst, c_21, c_34]; rfl) rfl
  exact hlp2 (zNb a) 0 (by omega) rfl
theorem inX2_highestAlone_X2 : ∀ w ∈ wsX20, w ∈ wsX2_highestAlone := fun w h => List.mem_cons_of_mem _ (List.mem_append_right _ (h))
set_option maxRecDepth 100000 in
set_option maxHeartbeats 4000000 in
theorem c_X2_highestAlone (l : Launch) (g : zG) (q : Nat → Nat) (a : zS) (bs : Nat → Int × Nat) (wb pd gw : Nat → Nat → Int) (ha : zOk a) (f : Nat) (hf : f < 8) (lo : Int) (hlo : -1 ≤ lo ∧ lo < 5) : zM g l yX2_highestAlone wsX2_highestAlone { frames := 1, cells := 0, slots := 0, locals := 21 } [.ref (q 0), .int (nI f), .int (iZ lo)] (wB g q a (zG0 a) bs wb pd gw) (zPi (iZ (zHi a (zCo a f lo) (zNb a))) (wB g q a (zG0 a) bs wb pd gw)) 0 0 := by
  refine zM.of (cc := cX2_highestAlone) (nL := 6) (ret := (some .int)) (lv := [(0, .ref (q 0)), (1, .int (nI f)), (2, .int (iZ lo))]) (by decide) rfl (Nat.le_of_ble_eq_true rfl) rfl ?_
  intro E C0 hi
  have C : zC g E cX2_highestAlone RX2 wsX2_highestAlone 6 (some .int) := C0
  obtain ⟨hnf, hnd, hnb, hou, hrs, hbd⟩ := id ha
  have p8 : 2 ^ f ≤ 2 ^ 8 := zp2_le (by omega)
  refine z_iconst C (iZ (-1)) dX2_highestAlone_0 (by decide) ?_
  refine z_istore_n C dX2_highestAlone_1 (by decide) [(3, .int (iZ (-1))), (0, .ref (q 0)), (1, .int (nI f)), (2, .int (iZ lo))] rfl ?_
  refine z_iconst C (nI 0) dX2_highestAlone_2 (by decide) ?_
  refine z_istore C dX2_highestAlone_3 (by decide) [(4, .int (nI 0)), (3, .int (iZ (-1))), (0, .ref (q 0)), (1, .int (nI f)), (2, .int (iZ lo))] rfl ?_
  refine zW.pick (lv' := [(0, .ref (q 0)), (1, .int (nI f)), (2, .int (iZ lo)), (3, .int (iZ (-1))), (4, .int (nI 0))]) [2, 3, 4, 1, 0] rfl ?_
  have hlp5 : ∀ (k i : Nat), i + k = zNb a → zW g l ({ frames := 1, cells := 0, slots := 0, locals := 21 }) E (zMQ g E (zPi (iZ (zHi a (zCo a f lo) (zNb a))) (wB g q a (zG0 a) bs wb pd gw)) 0 0) 6 0 0 (wB g q a (zG0 a) bs wb pd gw) [(0, .ref (q 0)), (1, .int (nI f)), (2, .int (iZ lo)), (3, .int (iZ (zHi a (zCo a f lo) i))), (4, .int (nI i))] [] 5 := by
    intro k
    induction k with
    | zero =>
      intro i hik
      refine z_iload C dX2_highestAlone_5 4 rfl ?_
      refine z_aload_n C dX2_highestAlone_7 0 rfl ?_
      refine z_get C inX2_highestAlone_X2 0 wB_o rfl 10 (by decide) (C.w 1 rfl) rfl dX2_highestAlone_8 ?_
      refine z_icmp_ge C 89 dX2_highestAlone_11 (by decide) (zle_NN (by omega) (by omega)) (fun c_11 => ?_) (fun h9 => absurd (by omega) h9)
      refine z_iload_n C dX2_highestAlone_89 3 rfl ?_
      exact z_iretP C dX2_highestAlone_90 (by rw [show i = zNb a by omega]) rfl
    | succ k ih5 =>
      intro i hik
      have hH : -1 ≤ zHi a (zCo a f lo) i ∧ zHi a (zCo a f lo) i < 12 := by rcases zHi_or a (zCo a f lo) i with h | ⟨c, h1, h2, -⟩ <;> omega
      refine z_iload C dX2_highestAlone_5 4 rfl ?_
      refine z_aload_n C dX2_highestAlone_7 0 rfl ?_
      refine z_get C inX2_highestAlone_X2 0 wB_o rfl 10 (by decide) (C.w 1 rfl) rfl dX2_highestAlone_8 ?_
      refine z_icmp_ge C 89 dX2_highestAlone_11 (by decide) (zle_NN (by omega) (by omega)) (fun h9 => absurd h9 (by omega)) (fun c_11 => ?_)
      refine z_aload_n C dX2_highestAlone_14 0 rfl ?_
      refine z_iload C dX2_highestAlone_15 4 rfl ?_
      refine z_callV C (c_X2_counts l g q a bs wb pd gw ha i (by omega)) (cwV 1 C.ts gX2_highestAlone_X2_counts rfl rfl rfl (by decide +kernel) ⟨Nat.le_of_ble_eq_true rfl, Nat.le_of_ble_eq_true rfl⟩) wB_o rfl rfl rfl (Nat.le_of_ble_eq_true rfl) dX2_highestAlone_17 ⟨Nat.zero_le _, Nat.zero_le _⟩ (z_i ?_)
      refine z_if_eq C 51 dX2_highestAlone_20 (by decide) (zeq_B0 _) (fun c_20 => ?_) (fun c_20 => ?_)
      · skip
        refine z_iconst C (nI 0) dX2_highestAlone_51 (by decide) ?_
        refine z_istore C dX2_highestAlone_52 (by decide) [(5, .int (nI 0)), (0, .ref (q 0)), (1, .int (nI f)), (2, .int (iZ lo)), (3, .int (iZ (zHi a (zCo a f lo) i))), (4, .int (nI i))] rfl ?_
        refine z_iload C dX2_highestAlone_54 0 rfl ?_
        refine z_if_eq C 83 dX2_highestAlone_56 (by decide) (zeq_N0 (by omega)) (fun c_56 => ?_) (fun h9 => absurd (by decide) h9)
        refine z_iinc C dX2_highestAlone_83 5 (nI (i + 1)) rfl (nI_add i 1) (by decide) [(4, .int (nI (i + 1))), (5, .int (nI 0)), (0, .ref (q 0)), (1, .int (nI f)), (2, .int (iZ lo)), (3, .int (iZ (zHi a (zCo a f lo) i)))] rfl ?_
        refine z_goto C 5 dX2_highestAlone_86 (by decide) ?_
        refine zW.pick (lv' := [(0, .ref (q 0)), (1, .int (nI f)), (2, .int (iZ lo)), (3, .int (iZ (zHi a (zCo a f lo) i))), (4, .int (nI (i + 1)))]) [2, 3, 4, 5, 0] rfl ?_
        refine zW.lve (lv' := [(0, .ref (q 0)), (1, .int (nI f)), (2, .int (iZ lo)), (3, .int (iZ (zHi a (zCo a f lo) (i + 1)))), (4, .int (nI (i + 1)))]) (by first | (simp_all [zHi, zCo, iZ_n]; done) | (simp_all [zHi, zCo, iZ_n]; rw [if_neg (by omega)]; rfl)) ?_
        exact ih5 (i + 1) (by omega)
      · skip
        refine z_aload_n C dX2_highestAlone_23 0 rfl ?_
        refine z_get C inX2_highestAlone_X2 0 wB_o rfl 5 (by decide) (C.w 2 rfl) rfl dX2_highestAlone_24 ?_
        refine z_iload C dX2_highestAlone_27 4 rfl ?_
        refine z_ialdN C 4 wB_bu (by omega) (by decide) dX2_highestAlone_29 (v := nI (zBu a i)) rfl ?_
        have f_29b := (ha.bu8 (b := i) (by omega))
        refine z_iconst C (nI 1) dX2_highestAlone_30 (by decide) ?_
        refine z_iload_n C dX2_highestAlone_31 1 rfl ?_
        refine z_ishl C dX2_highestAlone_32 (v := nI (2 ^ f)) (zshl_1N (by omega)) ?_
        refine z_icmp_ne C 51 dX2_highestAlone_33 (by decide) (zeq_NN (by omega) (by omega)) (fun c_33 => ?_) (fun c_33 => ?_)
        · skip
          refine z_iconst C (nI 0) dX2_highestAlone_51 (by decide) ?_
          refine z_istore C dX2_highestAlone_52 (by decide) [(5, .int (nI 0)), (0, .ref (q 0)), (1, .int (nI f)), (2, .int (iZ lo)), (3, .int (iZ (zHi a (zCo a f lo) i))), (4, .int (nI i))] rfl ?_
          refine z_iload C dX2_highestAlone_54 0 rfl ?_
          refine z_if_eq C 83 dX2_highestAlone_56 (by decide) (zeq_N0 (by omega)) (fun c_56 => ?_) (fun h9 => absurd (by decide) h9)
          refine z_iinc C dX2_highestAlone_83 5 (nI (i + 1)) rfl (nI_add i 1) (by decide) [(4, .int (nI (i + 1))), (5, .int (nI 0)), (0, .ref (q 0)), (1, .int (nI f)), (2, .int (iZ lo)), (3, .int (iZ (zHi a (zCo a f lo) i)))] rfl ?_
          refine z_goto C 5 dX2_highestAlone_86 (by decide) ?_
          refine zW.pick (lv' := [(0, .ref (q 0)), (1, .int (nI f)), (2, .int (iZ lo)), (3, .int (iZ (zHi a (zCo a f lo) i))), (4, .int (nI (i + 1)))]) [2, 3, 4, 5, 0] rfl ?_
          refine zW.lve (lv' := [(0, .ref (q 0)), (1, .int (nI f)), (2, .int (iZ lo)), (3, .int (iZ (zHi a (zCo a f lo) (i + 1)))), (4, .int (nI (i + 1)))]) (by first | (simp_all [zHi, zCo, iZ_n]; done) | (simp_all [zHi, zCo, iZ_n]; rw [if_neg (by omega)]; rfl)) ?_
          exact ih5 (i + 1) (by omega)
        · skip
          refine z_aload_n C dX2_highestAlone_36 0 rfl ?_
          refine z_get C inX2_highestAlone_X2 0 wB_o rfl 4 (by decide) (C.w 3 rfl) rfl dX2_highestAlone_37 ?_
          refine z_iload C dX2_highestAlone_40 4 rfl ?_
          refine z_ialdN C 3 wB_ow (by omega) (by decide) dX2_highestAlone_42 (v := nI (zOw a i)) rfl ?_
          have f_42b := (ha.ow (b := i) (by omega))
          refine z_iload_n C dX2_highestAlone_43 2 rfl ?_
          refine z_icmp_eq C 51 dX2_highestAlone_44 (by decide) (zeq_ZZ (x := ((zOw a i : Nat) : Int)) (y := lo) (by unfold zB31; omega) (by unfold zB31; omega)) (fun c_44 => ?_) (fun c_44 => ?_)
          · skip
            refine z_iconst C (nI 0) dX2_highestAlone_51 (by decide) ?_
            refine z_istore C dX2_highestAlone_52 (by decide) [(5, .int (nI 0)), (0, .ref (q 0)), (1, .int (nI f)), (2, .int (iZ lo)), (3, .int (iZ (zHi a (zCo a f lo) i))), (4, .int (nI i))] rfl ?_
            refine z_iload C dX2_highestAlone_54 0 rfl ?_
            refine z_if_eq C 83 dX2_highestAlone_56 (by decide) (zeq_N0 (by omega)) (fun c_56 => ?_) (fun h9 => absurd (by decide) h9)
            refine z_iinc C dX2_highestAlone_83 5 (nI (i + 1)) rfl (nI_add i 1) (by decide) [(4, .int (nI (i + 1))), (5, .int (nI 0)), (0, .ref (q 0)), (1, .int (nI f)), (2, .int (iZ lo)), (3, .int (iZ (zHi a (zCo a f lo) i)))] rfl ?_
            refine z_goto C 5 dX2_highestAlone_86 (by decide) ?_
            refine zW.pick (lv' := [(0, .ref (q 0)), (1, .int (nI f)), (2, .int (iZ lo)), (3, .int (iZ (zHi a (zCo a f lo) i))), (4, .int (nI (i + 1)))]) [2, 3, 4, 5, 0] rfl ?_
            refine zW.lve (lv' := [(0, .ref (q 0)), (1, .int (nI f)), (2, .int (iZ lo)), (3, .int (iZ (zHi a (zCo a f lo) (i + 1)))), (4, .int (nI (i + 1)))]) (by first | (simp_all [zHi, zCo, iZ_n]; done) | (simp_all [zHi, zCo, iZ_n]; rw [if_neg (by omega)]; rfl)) ?_
            exact ih5 (i + 1) (by omega)
          · skip
            refine z_iconst C (nI 1) dX2_highestAlone_47 (by decide) ?_
            refine z_goto C 52 dX2_highestAlone_48 (by decide) ?_
            refine z_istore C dX2_highestAlone_52 (by decide) [(5, .int (nI 1)), (0, .ref (q 0)), (1, .int (nI f)), (2, .int (iZ lo)), (3, .int (iZ (zHi a (zCo a f lo) i))), (4, .int (nI i))] rfl ?_
            refine z_iload C dX2_highestAlone_54 0 rfl ?_
            refine z_if_eq C 83 dX2_highestAlone_56 (by decide) (zeq_N0 (by omega)) (fun h9 => absurd h9 (by decide)) (fun c_56 => ?_)
            refine z_iload_n C dX2_highestAlone_59 4 rfl ?_
            refine z_iconst C (iZ (-1)) dX2_highestAlone_60 (by decide) ?_
            refine z_icmp_eq C 80 dX2_highestAlone_61 (by decide) (zeq_ZZ (x := (zHi a (zCo a f lo) i)) (y := (-1)) (by unfold zB31; omega) (by unfold zB31; omega)) (fun c_61 => ?_) (fun c_61 => ?_)
            · skip
              refine z_iload C dX2_highestAlone_80 5 rfl ?_
              refine z_istore_n C dX2_highestAlone_82 (by decide) [(3, .int (nI i)), (5, .int (nI 1)), (0, .ref (q 0)), (1, .int (nI f)), (2, .int (iZ lo)), (4, .int (nI i))] rfl ?_
              refine z_iinc C dX2_highestAlone_83 5 (nI (i + 1)) rfl (nI_add i 1) (by decide) [(4, .int (nI (i + 1))), (3, .int (nI i)), (5, .int (nI 1)), (0, .ref (q 0)), (1, .int (nI f)), (2, .int (iZ lo))] rfl ?_
              refine z_goto C 5 dX2_highestAlone_86 (by decide) ?_
              refine zW.pick (lv' := [(0, .ref (q 0)), (1, .int (nI f)), (2, .int (iZ lo)), (3, .int (nI i)), (4, .int (nI (i + 1)))]) [3, 4, 5, 1, 0] rfl ?_
              refine zW.lve (lv' := [(0, .ref (q 0)), (1, .int (nI f)), (2, .int (iZ lo)), (3, .int (iZ (zHi a (zCo a f lo) (i + 1)))), (4, .int (nI (i + 1)))]) (by first | (simp_all [zHi, zCo, iZ_n]; done) | (simp_all [zHi, zCo, iZ_n]; rw [if_neg (by omega)]; rfl)) ?_
              exact ih5 (i + 1) (by omega)
            · skip
              obtain ⟨c, hc, hce, -⟩ := (zHi_or a (zCo a f lo) i).resolve_left c_61
              have f9 := ha.pr (b := c) (by omega)
              refine z_aload_n C dX2_highestAlone_64 1 rfl ?_
              refine z_get C inX2_highestAlone_X2 0 wB_o rfl 6 (by decide) (C.w 4 rfl) rfl dX2_highestAlone_65 ?_
              refine z_iload C dX2_highestAlone_68 5 rfl ?_
              refine z_ialdN C 5 wB_pr (by omega) (by decide) dX2_highestAlone_70 (v := nI (zPr a i)) rfl ?_
              have f_70b := (ha.pr (b := i) (by omega))
              refine z_aload_n C dX2_highestAlone_71 1 rfl ?_
              refine z_get C inX2_highestAlone_X2 0 wB_o rfl 6 (by decide) (C.w 4 rfl) rfl dX2_highestAlone_72 ?_
              refine z_iload_n C dX2_highestAlone_75 4 rfl ?_
              refine zW.top (y := nI c) (by rw [hce]; rfl) ?_
              refine z_ialdN C 5 wB_pr (by omega) (by decide) dX2_highestAlone_76 (v := nI (zPr a c)) rfl ?_
              have f_76b := (ha.pr (b := c) (by omega))
              refine z_icmp_le C 83 dX2_highestAlone_77 (by decide) (zle_NN (by omega) (by omega)) (fun c_77 => ?_) (fun c_77 => ?_)
              · skip
                refine z_iinc C dX2_highestAlone_83 5 (nI (i + 1)) rfl (nI_add i 1) (by decide) [(4, .int (nI (i + 1))), (5, .int (nI 1)), (0, .ref (q 0)), (1, .int (nI f)), (2, .int (iZ lo)), (3, .int (iZ (zHi a (zCo a f lo) i)))] rfl ?_
                refine z_goto C 5 dX2_highestAlone_86 (by decide) ?_
                refine zW.pick (lv' := [(0, .ref (q 0)), (1, .int (nI f)), (2, .int (iZ lo)), (3, .int (iZ (zHi a (zCo a f lo) i))), (4, .int (nI (i + 1)))]) [2, 3, 4, 5, 0] rfl ?_
                refine zW.lve (lv' := [(0, .ref (q 0)), (1, .int (nI f)), (2, .int (iZ lo)), (3, .int (iZ (zHi a (zCo a f lo) (i + 1)))), (4, .int (nI (i + 1)))]) (by first | (simp_all [zHi, zCo, iZ_n]; done) | (simp_all [zHi, zCo, iZ_n]; rw [if_neg (by omega)]; rfl)) ?_
                exact ih5 (i + 1) (by omega)
              · skip
                refine z_iload C dX2_highestAlone_80 5 rfl ?_
                refine z_istore_n C dX2_highestAlone_82 (by decide) [(3, .int (nI i)), (5, .int (nI 1)), (0, .ref (q 0)), (1, .int (nI f)), (2, .int (iZ lo)), (4, .int (nI i))] rfl ?_
                refine z_iinc C dX2_highestAlone_83 5 (nI (i + 1)) rfl (nI_add i 1) (by decide) [(4, .int (nI (i + 1))), (3, .int (nI i)), (5, .int (nI 1)), (0, .ref (q 0)), (1, .int (nI f)), (2, .int (iZ lo))] rfl ?_
                refine z_goto C 5 dX2_highestAlone_86 (by decide) ?_
                refine zW.pick (lv' := [(0, .ref (q 0)), (1, .int (nI f)), (2, .int (iZ lo)), (3, .int (nI i)), (4, .int (nI (i + 1)))]) [3, 4, 5, 1, 0] rfl ?_
                refine zW.lve (lv' := [(0, .ref (q 0)), (1, .int (nI f)), (2, .int (iZ lo)), (3, .int (iZ (zHi a (zCo a f lo) (i + 1)))), (4, .int (nI (i + 1)))]) (by first | (simp_all [zHi, zCo, iZ_n]; done) | (simp_all [zHi, zCo, iZ_n]; rw [if_neg (by omega)]; rfl)) ?_
                exact ih5 (i + 1) (by omega)
  exact hlp5 (zNb a) 0 (by omega)
theorem inX2_secondPrice_X2 : ∀ w ∈ wsX20, w ∈ wsX2_secondPrice := fun w h => List.mem_cons_of_mem _ (List.mem_append_right _ (h))
set_option maxRecDepth 100000 in
set_option maxHeartbeats 4000000 in
theorem c_X2_secondPrice_no (l : Launch) (g : zG) (q : Nat → Nat) (a : zS) (bs : Nat → Int × Nat) (wb pd gw : Nat → Nat → Int) (ha : zOk a) (f : Nat) (hf : f < zNf a) (c : Nat) (hc : c < zNb a) (hs : zHi a (zCo a f (zOw a c : Int)) (zNb a) = -1) : zM g l yX2_secondPrice wsX2_secondPrice { frames := 2, cells := 0, slots := 0, locals := 46 } [.ref (q 0), .int (nI f), .int (nI c)] (wB g q a (zG0 a) bs wb pd gw) (zPi (nI (zRs a f)) (wB g q a (zG0 a) bs wb pd gw)) 0 0 := by
  refine zM.of (cc := cX2_secondPrice) (nL := 4) (ret := (some .int)) (lv := [(0, .ref (q 0)), (1, .int (nI f)), (2, .int (nI c))]) (by decide) rfl (Nat.le_of_ble_eq_true rfl) rfl ?_
  intro E C0 hi
  have C : zC g E cX2_secondPrice RX2 wsX2_secondPrice 4 (some .int) := C0
  obtain ⟨hnf, hnd, hnb, hou, hrs, hbd⟩ := id ha
  refine z_aload_n C dX2_secondPrice_0 0 rfl ?_
  refine z_iload_n C dX2_secondPrice_1 1 rfl ?_
  refine z_aload_n C dX2_secondPrice_2 0 rfl ?_
  refine z_get C inX2_secondPrice_X2 0 wB_o rfl 4 (by decide) (C.w 1 rfl) rfl dX2_secondPrice_3 ?_
  refine z_iload_n C dX2_secondPrice_6 2 rfl ?_
  refine z_ialdN C 3 wB_ow (by omega) (by decide) dX2_secondPrice_7 (v := nI (zOw a c)) rfl ?_
  have f_7b := (ha.ow (b := c) (by omega))
  refine z_callV C (c_X2_highestAlone l g q a bs wb pd gw ha f (by omega) ((zOw a c : Nat) : Int) (by omega)) (cwV 2 C.ts gX2_secondPrice_X2_highestAlone rfl rfl rfl (by decide +kernel) ⟨Nat.le_of_ble_eq_true rfl, Nat.le_of_ble_eq_true rfl⟩) wB_o rfl rfl rfl (Nat.le_of_ble_eq_true rfl) dX2_secondPrice_8 ⟨Nat.zero_le _, Nat.zero_le _⟩ (z_i ?_)
  refine zW.top (y := iZ (-1)) (by rw [hs]) ?_
  refine z_istore_n C dX2_secondPrice_11 (by decide) [(3, .int (iZ (-1))), (0, .ref (q 0)), (1, .int (nI f)), (2, .int (nI c))] rfl ?_
  refine z_iload_n C dX2_secondPrice_12 0 rfl ?_
  refine z_iconst C (iZ (-1)) dX2_secondPrice_13 (by decide) ?_
  refine z_icmp_ne C 26 dX2_secondPrice_14 (by decide) (zeq_ZZ (x := (-1)) (y := (-1)) (by unfold zB31; omega) (by unfold zB31; omega)) (fun h9 => absurd (by decide) h9) (fun c_14 => ?_)
  refine z_aload_n C dX2_secondPrice_17 1 rfl ?_
  refine z_get C inX2_secondPrice_X2 0 wB_o rfl 0 (by decide) (C.w 2 rfl) rfl dX2_secondPrice_18 ?_
  refine z_iload_n C dX2_secondPrice_21 2 rfl ?_
  refine z_ialdN C 1 wB_rs (by omega) (by decide) dX2_secondPrice_22 (v := nI (zRs a f)) rfl ?_
  have f_22b := (ha.rs (f := f) (by omega))
  refine z_goto C 32 dX2_secondPrice_23 (by decide) ?_
  exact z_iretP C dX2_secondPrice_32 rfl rfl
set_option maxRecDepth 100000 in
set_option maxHeartbeats 4000000 in
theorem c_X2_secondPrice_b (l : Launch) (g : zG) (q : Nat → Nat) (a : zS) (bs : Nat → Int × Nat) (wb pd gw : Nat → Nat → Int) (ha : zOk a) (f : Nat) (hf : f < zNf a) (c : Nat) (hc : c < zNb a) (c2 : Nat) (hc2 : c2 < zNb a) (hs : zHi a (zCo a f (zOw a c : Int)) (zNb a) = (c2 : Int)) : zM g l yX2_secondPrice wsX2_secondPrice { frames := 2, cells := 0, slots := 0, locals := 46 } [.ref (q 0), .int (nI f), .int (nI c)] (wB g q a (zG0 a) bs wb pd gw) (zPi (nI (zPr a c2)) (wB g q a (zG0 a) bs wb pd gw)) 0 0 := by
  refine zM.of (cc := cX2_secondPrice) (nL := 4) (ret := (some .int)) (lv := [(0, .ref (q 0)), (1, .int (nI f)), (2, .int (nI c))]) (by decide) rfl (Nat.le_of_ble_eq_true rfl) rfl ?_
  intro E C0 hi
  have C : zC g E cX2_secondPrice RX2 wsX2_secondPrice 4 (some .int) := C0
  obtain ⟨hnf, hnd, hnb, hou, hrs, hbd⟩ := id ha
  refine z_aload_n C dX2_secondPrice_0 0 rfl ?_
  refine z_iload_n C dX2_secondPrice_1 1 rfl ?_
  refine z_aload_n C dX2_secondPrice_2 0 rfl ?_
  refine z_get C inX2_secondPrice_X2 0 wB_o rfl 4 (by decide) (C.w 1 rfl) rfl dX2_secondPrice_3 ?_
  refine z_iload_n C dX2_secondPrice_6 2 rfl ?_
  refine z_ialdN C 3 wB_ow (by omega) (by decide) dX2_secondPrice_7 (v := nI (zOw a c)) rfl ?_
  have f_7b := (ha.ow (b := c) (by omega))
  refine z_callV C (c_X2_highestAlone l g q a bs wb pd gw ha f (by omega) ((zOw a c : Nat) : Int) (by omega)) (cwV 2 C.ts gX2_secondPrice_X2_highestAlone rfl rfl rfl (by decide +kernel) ⟨Nat.le_of_ble_eq_true rfl, Nat.le_of_ble_eq_true rfl⟩) wB_o rfl rfl rfl (Nat.le_of_ble_eq_true rfl) dX2_secondPrice_8 ⟨Nat.zero_le _, Nat.zero_le _⟩ (z_i ?_)
  refine zW.top (y := nI c2) (by rw [hs]; rfl) ?_
  refine z_istore_n C dX2_secondPrice_11 (by decide) [(3, .int (nI c2)), (0, .ref (q 0)), (1, .int (nI f)), (2, .int (nI c))] rfl ?_
  refine z_iload_n C dX2_secondPrice_12 0 rfl ?_
  refine z_iconst C (iZ (-1)) dX2_secondPrice_13 (by decide) ?_
  refine z_icmp_ne C 26 dX2_secondPrice_14 (by decide) (zeq_ZZ (x := ((c2 : Nat) : Int)) (y := (-1)) (by unfold zB31; omega) (by unfold zB31; omega)) (fun c_14 => ?_) (fun h9 => absurd h9 (by omega))
  refine z_aload_n C dX2_secondPrice_26 1 rfl ?_
  refine z_get C inX2_secondPrice_X2 0 wB_o rfl 6 (by decide) (C.w 3 rfl) rfl dX2_secondPrice_27 ?_
  refine z_iload_n C dX2_secondPrice_30 0 rfl ?_
  refine z_ialdN C 5 wB_pr (by omega) (by decide) dX2_secondPrice_31 (v := nI (zPr a c2)) rfl ?_
  have f_31b := (ha.pr (b := c2) (by omega))
  exact z_iretP C dX2_secondPrice_32 rfl rfl
end
section
/-- an answer and, of the world, a proposition -/
def zPie (x : Int32) (P : va_W → Prop) : Option Value → va_W → Prop := fun v w' => v = some (.int x) ∧ P w'
theorem z_ie {g : zG} {l : Launch} {R : Room} {E : zEnv} {Q : State → Prop} {nL cells slots : Nat} {lv : List (Nat × Value)} {rest : List Value} {pc : Nat} {x : Int32} {P : va_W → Prop} (kk : ∀ w', P w' → zW g l R E Q nL cells slots w' lv (.int x :: rest) pc) : ∀ v w', zPie x P v w' → zW g l R E Q nL (cells + 0) (slots + 0) w' lv (v.toList ++ rest) pc := by
  rintro _ w' ⟨rfl, h⟩; exact kk w' h
theorem z_iretE {g : zG} {l : Launch} {R : Room} {E : zEnv} {nL cells slots : Nat} {ws : va_W} {lv : List (Nat × Value)} {pc : Nat} {cc : ByteArray} {own : String} {Ts : List Cond} {P : va_W → Prop} (C : zC g E cc own Ts nL (some .int)) {v x : Int32} (d : decode cc pc = .ok (.ireturn, 1)) (hx : v = x) (hp : P ws) : zW g l R E (zMQ g E (zPie x P) cells slots) nL cells slots ws lv [.int v] pc := z_iret C d ⟨by rw [hx], hp⟩
theorem z_zretE {g : zG} {l : Launch} {R : Room} {E : zEnv} {nL cells slots : Nat} {ws : va_W} {lv : List (Nat × Value)} {pc : Nat} {cc : ByteArray} {own : String} {Ts : List Cond} {P : va_W → Prop} (C : zC g E cc own Ts nL (some .boolean)) {v : Int32} {b : Bool} (d : decode cc pc = .ok (.ireturn, 1)) (hx : v = bI b) (hp : P ws) : zW g l R E (zMQ g E (zPie (bI b) P) cells slots) nL cells slots ws lv [.int v] pc := by
  subst hx
  exact z_zret C (zbI_nar b) d ⟨rfl, hp⟩
/-- the class's world, its sale settled -/
def zFace (g : zG) (q : Nat → Nat) (a : zS) : va_W → Prop := fun w' => ∃ (bs : Nat → Int × Nat) (wb pd gw : Nat → Nat → Int), w' = wB g q a (zG0 a) bs wb pd gw ∧ zSet a bs wb pd gw 0 0
/-- what holds of every state between two calls -/
def zInv (a : zS) : Prop := zOk a ∧ ∀ b, zNb a ≤ b → zGo a b = 0
theorem zDfs_cong {a a' : zS} {n : Nat} (h : ∀ b, b < n → zBu a b = zBu a' b ∧ zOw a b = zOw a' b ∧ zCn a (zOu a) b = zCn a' (zOu a') b ∧ zGn a b = zGn a' b) : ∀ (k : Nat) (x : Int × Nat) (i tf tb : Nat) (gi : Int) (m : Nat), i + k ≤ n → zDfs a k x i tf tb gi m = zDfs a' k x i tf tb gi m := by
  intro k
  induction k with
  | zero => intros; rfl
  | succ k ih =>
    intro x i tf tb gi m hk
    obtain ⟨h1, h2, h3, h4⟩ := h i (by omega)
    rw [zDfs_s, zDfs_s]
    have e1 : zSw a k x i tf tb gi m = zSw a' k x i tf tb gi m := by
      unfold zSw zFitb
      rw [h1, h2, h3, h4]
      split
      · exact ih _ _ _ _ _ _ (by omega)
      · rfl
    rw [e1]
    exact ih _ _ _ _ _ _ (by omega)
theorem zSum_cong {f f' : Nat → Nat} : ∀ n, (∀ i, i < n → f i = f' i) → zSum f n = zSum f' n
  | 0, _ => rfl
  | n + 1, h => by
    unfold zSum
    rw [zSum_cong n (fun i hi => h i (by omega)), h n (by omega)]
theorem zSi_cong {f f' : Nat → Int} : ∀ n, (∀ i, i < n → f i = f' i) → zSi f n = zSi f' n
  | 0, _ => rfl
  | n + 1, h => by
    unfold zSi
    rw [zSi_cong n (fun i hi => h i (by omega)), h n (by omega)]
-- a field comes
theorem zRes_new (a : zS) (x m : Nat) (hm : m < 2 ^ zNf a) : zRes (zSetNf (zSetRs a (zNf a) x) (zNf a + 1)) m = zRes a m := by
  show zSum (fun f => if m.testBit f = true then va_up (zRs a) (zNf a) x f else 0) (zNf a + 1) = _
  unfold zSum
  rw [if_neg (by rw [Nat.testBit_lt_two_pow hm]; simp), Nat.add_zero]
  refine zSum_cong _ (fun i hi => ?_)
  rw [va_up_ne _ _ (by omega)]
theorem zGn_new {a : zS} (ha : zOk a) (x : Nat) {b : Nat} (hb : b < zNb a) : zGn (zSetNf (zSetRs a (zNf a) x) (zNf a + 1)) b = zGn a b := by
  show (zPr a b : Int) - (zRes _ (zBu a b) : Int) = _
  rw [zRes_new a x _ (ha.bu hb)]
  rfl
theorem zFw_new {a : zS} (ha : zOk a) (x ab : Nat) : zFw (zSetNf (zSetRs a (zNf a) x) (zNf a + 1)) ab = zFw a ab := by
  refine zDfs_cong (a := zSetNf (zSetRs a (zNf a) x) (zNf a + 1)) (a' := a) (n := zNb a) (fun b hb => ⟨rfl, rfl, ?_, zGn_new ha x hb⟩) _ _ _ _ _ _ _ (by show 0 + zNb a ≤ _; omega)
  unfold zCn
  rw [zGn_new ha x hb]
  rfl
theorem zG0_new {a : zS} (ha : zOk a) (x : Nat) : zG0 (zSetNf (zSetRs a (zNf a) x) (zNf a + 1)) = zG0 a := by
  funext k
  unfold zG0
  show (if k < zNb a then _ else _) = _
  split
  · next h => exact zGn_new ha x h
  · rfl
theorem zLw_cong {a a' : zS} {m e : Nat} : ∀ n, (∀ b, b < n → zOw a b = zOw a' b) → zLw a m n e = zLw a' m n e
  | 0, _ => rfl
  | n + 1, h => by
    unfold zLw
    rw [zLw_cong n (fun b hb => h b (by omega)), h n (by omega)]
theorem zGw_new {a : zS} (ha : zOk a) (x ab d : Nat) : zGw (zSetNf (zSetRs a (zNf a) x) (zNf a + 1)) ab d = zGw a ab d := by
  unfold zGw
  rw [zFw_new ha]
  rfl
theorem zLp_new {a : zS} (ha : zOk a) (x ab e : Nat) : ∀ n, n ≤ zNb a → zLp (zSetNf (zSetRs a (zNf a) x) (zNf a + 1)) ab n e = zLp a ab n e
  | 0, _ => rfl
  | n + 1, h => by
    unfold zLp
    rw [zLp_new ha x ab e n (by omega), zFw_new ha, zGw_new ha, zGn_new ha x (by omega)]
    show (if _ ∧ zOw a n = e then (zRes _ (zBu a n) : Int) + _ - _ else _) = _
    rw [zRes_new a x _ (ha.bu (by omega))]
    rfl
theorem zSet_new {a : zS} (ha : zOk a) (x : Nat) {bs : Nat → Int × Nat} {wb pd gw : Nat → Nat → Int} {z ab : Nat} (h : zSet a bs wb pd gw z ab) : zSet (zSetNf (zSetRs a (zNf a) x) (zNf a + 1)) bs wb pd gw z ab := by
  refine ⟨by rw [zFw_new ha]; exact h.1, fun d hd => ?_⟩
  obtain ⟨h1, h2, h3⟩ := h.2 d hd
  rw [zFw_new ha, zGw_new ha]
  refine ⟨?_, ?_, h3⟩
  · rw [h1]; exact (zLw_cong (a := zSetNf (zSetRs a (zNf a) x) (zNf a + 1)) (a' := a) _ (fun _ _ => rfl)).symm
  · rw [h2]; exact (zLp_new ha x ab d _ (Nat.le_refl _)).symm
theorem zInv_new {a : zS} (h : zInv a) {x : Nat} (hx : x ≤ 99) (hf : zNf a < 8) : zInv (zSetNf (zSetRs a (zNf a) x) (zNf a + 1)) := by
  obtain ⟨⟨h1, h2, h3, h4, h5, h6⟩, h7⟩ := h
  refine ⟨⟨by show zNf a + 1 ≤ 8; omega, h2, h3, h4, fun f hf9 => ?_, fun b hb => ?_⟩, h7⟩
  · have hf9 : f < zNf a + 1 := hf9
    show va_up (zRs a) (zNf a) x f ≤ 99
    by_cases e : f = zNf a
    · rw [e, va_up_self]; exact hx
    · rw [va_up_ne _ _ e]; exact h5 f (by omega)
  · obtain ⟨g1, g2, g3, g4⟩ := h6 b hb
    exact ⟨g1, g2, by show zBu a b < 2 ^ (zNf a + 1); rw [Nat.pow_succ]; omega, g4⟩
theorem zInv_setRs {a : zS} (h : zInv a) {f x : Nat} (hx : x ≤ 99) : zInv (zSetRs a f x) := by
  obtain ⟨⟨h1, h2, h3, h4, h5, h6⟩, h7⟩ := h
  refine ⟨⟨h1, h2, h3, h4, fun i hi => ?_, h6⟩, h7⟩
  show va_up (zRs a) f x i ≤ 99
  by_cases e : i = f
  · rw [e, va_up_self]; exact hx
  · rw [va_up_ne _ _ e]; exact h5 i hi
theorem zInv_setPr {a : zS} (h : zInv a) {b x : Nat} (hx : x ≤ 999) : zInv (zSetPr a b x) := by
  obtain ⟨⟨h1, h2, h3, h4, h5, h6⟩, h7⟩ := h
  refine ⟨⟨h1, h2, h3, h4, h5, fun i hi => ?_⟩, h7⟩
  obtain ⟨g1, g2, g3, g4, g5, g6⟩ := h6 i hi
  refine ⟨g1, g2, g3, ?_, g5, g6⟩
  show va_up (zPr a) b x i ≤ 999
  by_cases e : i = b
  · rw [e, va_up_self]; exact hx
  · rw [va_up_ne _ _ e]; exact g4
theorem zInv_setWo {a : zS} (h : zInv a) {b x : Nat} (hx : x ≤ 999) : zInv (zSetWo a b x) := by
  obtain ⟨⟨h1, h2, h3, h4, h5, h6⟩, h7⟩ := h
  refine ⟨⟨h1, h2, h3, h4, h5, fun i hi => ?_⟩, h7⟩
  obtain ⟨g1, g2, g3, g4, g5, g6⟩ := h6 i hi
  refine ⟨g1, g2, g3, g4, ?_, g6⟩
  show va_up (zWo a) b x i ≤ 999
  by_cases e : i = b
  · rw [e, va_up_self]; exact hx
  · rw [va_up_ne _ _ e]; exact g5
theorem zInv_setGo {a : zS} (h : zInv a) {b : Nat} (hb : b < zNb a) : zInv (zSetGo a b 1) := by
  obtain ⟨⟨h1, h2, h3, h4, h5, h6⟩, h7⟩ := h
  refine ⟨⟨h1, h2, h3, h4, h5, fun i hi => ?_⟩, fun i hi => ?_⟩
  · obtain ⟨g1, g2, g3, g4, g5, g6⟩ := h6 i hi
    refine ⟨g1, g2, g3, g4, g5, ?_⟩
    show va_up (zGo a) b 1 i ≤ 1
    by_cases e : i = b
    · rw [e, va_up_self]; exact Nat.le_refl 1
    · rw [va_up_ne _ _ e]; exact g6
  · have hi : zNb a ≤ i := hi
    show va_up (zGo a) b 1 i = 0
    rw [va_up_ne _ _ (by omega)]
    exact h7 i hi
theorem zInv_join {a : zS} (h : zInv a) (hd : zNd a < 5) : zInv (zSetNd a (zNd a + 1)) := by
  obtain ⟨⟨h1, h2, h3, h4, h5, h6⟩, h7⟩ := h
  refine ⟨⟨h1, by show zNd a + 1 ≤ 5; omega, h3, by show zOu a < 2 ^ (zNd a + 1); rw [Nat.pow_succ]; omega, h5, fun i hi => ?_⟩, h7⟩
  obtain ⟨g1, g2⟩ := h6 i hi
  exact ⟨by show zOw a i < zNd a + 1; omega, g2⟩
/-- the set of those who are out, behind setIn -/
def zOuIn (o d : Nat) (v : Bool) : Nat := if v = true then (if o.testBit d = true then o - 2 ^ d else o) else o ||| 2 ^ d
theorem zOuIn_all : ∀ n, n < 6 → ∀ o, o < 2 ^ n → ∀ d, d < n → ∀ v : Bool, zOuIn o d v < 2 ^ n ∧ ∀ k, k < n → (zOuIn o d v).testBit k = (if k = d then !v else o.testBit k) := by decide +kernel
theorem zInv_setOu {a : zS} (h : zInv a) {d : Nat} (hd : d < zNd a) (v : Bool) : zInv (zSetOu a (zOuIn (zOu a) d v)) := by
  obtain ⟨⟨h1, h2, h3, h4, h5, h6⟩, h7⟩ := h
  exact ⟨⟨h1, h2, h3, (zOuIn_all _ (by omega) _ h4 d hd v).1, h5, h6⟩, h7⟩
theorem zup_B (f : Nat → Bool) (k : Nat) (x : Bool) : upd (fun j => bI (f j)) k (bI x) = fun j => bI (va_up f k x j) := by
  funext j
  simp only [upd, va_up]
  split <;> rfl
theorem zIn_setOu {a : zS} (ha : zOk a) {d : Nat} (hd : d < zNd a) (v : Bool) : va_up (zIn a) d v = zIn (zSetOu a (zOuIn (zOu a) d v)) := by
  funext k
  have h9 := (zOuIn_all _ (by have := ha.2.1; omega) _ ha.2.2.2.1 d hd v).2
  show _ = (decide (k < zNd a) && !((zOuIn (zOu a) d v).testBit k))
  by_cases hk : k < zNd a
  · rw [h9 k hk]
    by_cases e : k = d
    · subst e; rw [va_up_self, if_pos rfl]; simp [hk]
    · rw [va_up_ne _ _ e, if_neg e]; rfl
  · rw [va_up_ne _ _ (by omega)]
    unfold zIn
    simp [hk]
theorem zIn_join {a : zS} (ha : zOk a) : va_up (zIn a) (zNd a) true = zIn (zSetNd a (zNd a + 1)) := by
  funext k
  show _ = (decide (k < zNd a + 1) && !((zOu a).testBit k))
  by_cases e : k = zNd a
  · subst e
    rw [va_up_self, Nat.testBit_lt_two_pow ha.2.2.2.1]
    simp
  · rw [va_up_ne _ _ e]
    unfold zIn
    congr 1
    simp only [decide_eq_decide]
    omega
/-- a bid comes -/
def zBid (a : zS) (d m x : Nat) : zS := zSetNb (zSetPr (zSetWo (zSetBu (zSetOw a (zNb a) d) (zNb a) m) (zNb a) x) (zNb a) x) (zNb a + 1)
theorem zOk_at {a : zS} (h : zOk a) (o b p w : Nat) : zOk (zSetPr (zSetWo (zSetBu (zSetOw a (zNb a) o) (zNb a) b) (zNb a) w) (zNb a) p) ∧ zOk (zSetWo (zSetBu (zSetOw a (zNb a) o) (zNb a) b) (zNb a) w) := by
  obtain ⟨h1, h2, h3, h4, h5, h6⟩ := h
  refine ⟨⟨h1, h2, h3, h4, h5, fun i hi => ?_⟩, ⟨h1, h2, h3, h4, h5, fun i hi => ?_⟩⟩
  · have hi : i < zNb a := hi
    obtain ⟨g1, g2, g3, g4, g5, g6⟩ := h6 i hi
    refine ⟨?_, ?_, ?_, ?_, ?_, g6⟩
    · show va_up (zOw a) (zNb a) o i < _; rw [va_up_ne _ _ (by omega)]; exact g1
    · show 0 < va_up (zBu a) (zNb a) b i; rw [va_up_ne _ _ (by omega)]; exact g2
    · show va_up (zBu a) (zNb a) b i < _; rw [va_up_ne _ _ (by omega)]; exact g3
    · show va_up (zPr a) (zNb a) p i ≤ _; rw [va_up_ne _ _ (by omega)]; exact g4
    · show va_up (zWo a) (zNb a) w i ≤ _; rw [va_up_ne _ _ (by omega)]; exact g5
  · have hi : i < zNb a := hi
    obtain ⟨g1, g2, g3, g4, g5, g6⟩ := h6 i hi
    refine ⟨?_, ?_, ?_, g4, ?_, g6⟩
    · show va_up (zOw a) (zNb a) o i < _; rw [va_up_ne _ _ (by omega)]; exact g1
    · show 0 < va_up (zBu a) (zNb a) b i; rw [va_up_ne _ _ (by omega)]; exact g2
    · show va_up (zBu a) (zNb a) b i < _; rw [va_up_ne _ _ (by omega)]; exact g3
    · show va_up (zWo a) (zNb a) w i ≤ _; rw [va_up_ne _ _ (by omega)]; exact g5
theorem zInv_bid {a : zS} (h : zInv a) {d m x : Nat} (hd : d < zNd a) (hm0 : 0 < m) (hm : m < 2 ^ zNf a) (hx : x ≤ 999) (hb : zNb a < 12) : zInv (zBid a d m x) := by
  obtain ⟨⟨h1, h2, h3, h4, h5, h6⟩, h7⟩ := h
  refine ⟨⟨h1, h2, by show zNb a + 1 ≤ 12; omega, h4, h5, fun i hi => ?_⟩, fun i hi => h7 i (by have : zNb a + 1 ≤ i := hi; omega)⟩
  have hi : i < zNb a + 1 := hi
  by_cases e : i = zNb a
  · subst e
    refine ⟨?_, ?_, ?_, ?_, ?_, ?_⟩
    · show va_up (zOw a) (zNb a) d (zNb a) < _; rw [va_up_self]; exact hd
    · show 0 < va_up (zBu a) (zNb a) m (zNb a); rw [va_up_self]; exact hm0
    · show va_up (zBu a) (zNb a) m (zNb a) < _; rw [va_up_self]; exact hm
    · show va_up (zPr a) (zNb a) x (zNb a) ≤ _; rw [va_up_self]; exact hx
    · show va_up (zWo a) (zNb a) x (zNb a) ≤ _; rw [va_up_self]; exact hx
    · show zGo a (zNb a) ≤ 1; rw [h7 _ (Nat.le_refl _)]; exact Nat.zero_le _
  · obtain ⟨g1, g2, g3, g4, g5, g6⟩ := h6 i (by omega)
    refine ⟨?_, ?_, ?_, ?_, ?_, g6⟩
    · show va_up (zOw a) (zNb a) d i < _; rw [va_up_ne _ _ e]; exact g1
    · show 0 < va_up (zBu a) (zNb a) m i; rw [va_up_ne _ _ e]; exact g2
    · show va_up (zBu a) (zNb a) m i < _; rw [va_up_ne _ _ e]; exact g3
    · show va_up (zPr a) (zNb a) x i ≤ _; rw [va_up_ne _ _ e]; exact g4
    · show va_up (zWo a) (zNb a) x i ≤ _; rw [va_up_ne _ _ e]; exact g5
theorem zG0_bid (a : zS) (d m x : Nat) : va_up (zG0 a) (zNb a) ((x : Int) - (zRes a m : Int)) = zG0 (zBid a d m x) := by
  funext k
  unfold zG0
  show _ = if k < zNb a + 1 then ((va_up (zPr a) (zNb a) x k : Nat) : Int) - (zRes a (va_up (zBu a) (zNb a) m k) : Int) else 0
  by_cases e : k = zNb a
  · subst e
    rw [va_up_self, va_up_self, va_up_self, if_pos (by omega)]
  · rw [va_up_ne _ _ e, va_up_ne _ _ e, va_up_ne _ _ e]
    by_cases h : k < zNb a
    · rw [if_pos h, if_pos (by omega)]; rfl
    · rw [if_neg h, if_neg (by omega)]
section WBJ
variable {g : zG} {q : Nat → Nat} {a : zS} {G : Nat → Int} {bs : Nat → Int × Nat} {wb pd gw : Nat → Nat → Int}
theorem wB_setIn (ha : zOk a) {d : Nat} (hd : d < zNd a) (v : Bool) : (wB g q a G bs wb pd gw).set 2 (q 2, .inl (zZ g, 5, .inl (upd (fun k => bI (zIn a k)) d (bI v)))) = wB g q (zSetOu a (zOuIn (zOu a) d v)) G bs wb pd gw := by
  rw [zup_B, zIn_setOu ha hd]; rfl
theorem wB_join1 : (wB g q a G bs wb pd gw).set 2 (q 2, .inl (zZ g, 5, .inl (upd (fun k => bI (zIn a k)) (zNd a) (bI true)))) = (wB g q a G bs wb pd gw).set 2 (q 2, .inl (zZ g, 5, .inl (fun k => bI (va_up (zIn a) (zNd a) true k)))) := by
  rw [zup_B]
theorem wB_join2 (ha : zOk a) : ((wB g q a G bs wb pd gw).set 2 (q 2, .inl (zZ g, 5, .inl (fun k => bI (va_up (zIn a) (zNd a) true k))))).set 0 (q 0, .inr (2, [Value.ref (q 1), .int (nI (zNf a)), .ref (q 2), .int (nI (zNd a)), .ref (q 3), .ref (q 4), .ref (q 5), .ref (q 6), .ref (q 7), .ref (q 8), .int (nI (zNb a)), .ref (q 12), .ref (q 13), .ref (q 11)].set 3 (.int (nI (zNd a + 1))))) = wB g q (zSetNd a (zNd a + 1)) G bs wb pd gw := by
  rw [zIn_join ha]; rfl
end WBJ
theorem inX2_field_X2 : ∀ w ∈ wsX20, w ∈ wsX2_field := fun w h => List.mem_cons_of_mem _ (List.mem_append_left _ (List.mem_append_left _ (List.mem_append_right _ (h))))
set_option maxRecDepth 100000 in
set_option maxHeartbeats 4000000 in
theorem c_X2_field (l : Launch) (g : zG) (q : Nat → Nat) (a : zS) (bs : Nat → Int × Nat) (wb pd gw : Nat → Nat → Int) (ha : zInv a) (hs : zSet a bs wb pd gw 0 0) (x : Nat) (hx : x ≤ 99) (hf : zNf a < 8) : zM g l yX2_field wsX2_field { frames := 1, cells := 0, slots := 0, locals := 20 } [.ref (q 0), .int (nI x)] (wB g q a (zG0 a) bs wb pd gw) (zPie (nI (zNf a)) (zFace g q (zSetNf (zSetRs a (zNf a) x) (zNf a + 1)))) 0 0 := by
  refine zM.of (cc := cX2_field) (nL := 3) (ret := (some .int)) (lv := [(0, .ref (q 0)), (1, .int (nI x))]) (by decide) rfl (Nat.le_of_ble_eq_true rfl) rfl ?_
  intro E C0 hi
  have C : zC g E cX2_field RX2 wsX2_field 3 (some .int) := C0
  have hi9 := ha
  have ha := hi9.1
  obtain ⟨hnf, hnd, hnb, hou, hrs, hbd⟩ := id ha
  refine z_iload_n C dX2_field_0 1 rfl ?_
  refine z_callS C (c_X2_requireReserve l g (wB g q a (zG0 a) bs wb pd gw) x (by omega)) (va_cwS 1 C.ts gX2_field_X2_requireReserve rfl rfl rfl (by decide +kernel) ⟨Nat.le_of_ble_eq_true rfl, Nat.le_of_ble_eq_true rfl⟩) rfl rfl (Nat.le_of_ble_eq_true rfl) dX2_field_1 ⟨Nat.zero_le _, Nat.zero_le _⟩ (z_v ?_)
  refine z_aload_n C dX2_field_4 0 rfl ?_
  refine z_get C inX2_field_X2 0 wB_o rfl 1 (by decide) (C.w 3 rfl) rfl dX2_field_5 ?_
  refine z_bipush C (nI 8) dX2_field_8 (by decide) ?_
  refine z_icmp_lt C 23 dX2_field_10 (by decide) (zlt_NN (by omega) (by omega)) (fun c_10 => ?_) (fun h9 => absurd (by omega) h9)
  refine z_aload_n C dX2_field_23 0 rfl ?_
  refine z_get C inX2_field_X2 0 wB_o rfl 1 (by decide) (C.w 3 rfl) rfl dX2_field_24 ?_
  refine z_istore_n C dX2_field_27 (by decide) [(2, .int (nI (zNf a))), (0, .ref (q 0)), (1, .int (nI x))] rfl ?_
  refine z_aload_n C dX2_field_28 1 rfl ?_
  refine z_get C inX2_field_X2 0 wB_o rfl 0 (by decide) (C.w 4 rfl) rfl dX2_field_29 ?_
  refine z_iload_n C dX2_field_32 0 rfl ?_
  refine z_iload_n C dX2_field_33 2 rfl ?_
  refine z_iastN C 1 wB_rs (by omega) (by decide) dX2_field_34 (wB_set_rs (zNf a) x) ?_
  refine z_aload_n C dX2_field_35 1 rfl ?_
  refine z_dup C dX2_field_36 rfl ?_
  refine z_get C inX2_field_X2 0 wB_o rfl 1 (by decide) (C.w 3 rfl) rfl dX2_field_37 ?_
  refine z_iconst C (nI 1) dX2_field_40 (by decide) ?_
  refine z_iadd C dX2_field_41 (v := nI ((zNf (zSetRs a (zNf a) x)) + 1)) (nI_add (zNf (zSetRs a (zNf a) x)) 1) ?_
  refine z_put C inX2_field_X2 tyX2_ok nmX2 0 wB_o rfl 1 (by decide) (C.w 3 rfl) rfl (tyX2_ok 1 (by decide)) rfl rfl (Nat.le_of_ble_eq_true rfl) dX2_field_42 (wB_set_nf _) ?_
  refine z_iload_n C dX2_field_45 0 rfl ?_
  exact z_iretE C dX2_field_46 rfl ⟨bs, wb, pd, gw, by rw [zG0_new ha]; rfl, zSet_new ha x hs⟩
theorem zGi_up (a : zS) (f x i : Nat) : va_up (fun k => if k < i then zGn (zSetRs a f x) k else zG0 a k) i ((zPr (zSetRs a f x) i : Int) - (zRes (zSetRs a f x) (zBu (zSetRs a f x) i) : Int)) = (fun k => if k < (i + 1) then zGn (zSetRs a f x) k else zG0 a k) := by
  funext k
  by_cases e : k = i
  · subst e
    rw [va_up_self]
    simp [zGn]
  · rw [va_up_ne _ _ e]
    show (if k < i then _ else _) = if k < i + 1 then _ else _
    by_cases h : k < i
    · rw [if_pos h, if_pos (by omega)]
    · rw [if_neg h, if_neg (by omega)]
theorem zGi_end (a : zS) (f x : Nat) : (fun k => if k < zNb a then zGn (zSetRs a f x) k else zG0 a k) = zG0 (zSetRs a f x) := by
  funext k
  show (if k < zNb a then _ else _) = if k < zNb a then _ else _
  by_cases h : k < zNb a
  · rw [if_pos h, if_pos h]
  · rw [if_neg h, if_neg h]
    unfold zG0
    rw [if_neg h]
theorem zSetPr_id (a : zS) (b : Nat) : zSetPr a b (zPr a b) = a := by
  unfold zSetPr
  rw [zup_id]
  rfl
theorem inX2_setReserve_X2 : ∀ w ∈ wsX20, w ∈ wsX2_setReserve := fun w h => List.mem_cons_of_mem _ (List.mem_append_left _ (List.mem_append_left _ (List.mem_append_left _ (List.mem_append_left _ (List.mem_append_right _ (h))))))
set_option maxRecDepth 100000 in
set_option maxHeartbeats 4000000 in
theorem c_X2_setReserve (l : Launch) (g : zG) (q : Nat → Nat) (a : zS) (bs : Nat → Int × Nat) (wb pd gw : Nat → Nat → Int) (ha : zInv a) (hs : zSet a bs wb pd gw 0 0) (f x : Nat) (hf : f < zNf a) (hx : x ≤ 99) : zM g l yX2_setReserve wsX2_setReserve { frames := 30, cells := 0, slots := 0, locals := 798 } [.ref (q 0), .int (nI f), .int (nI x)] (wB g q a (zG0 a) bs wb pd gw) (zPie (nI (zRs a f)) (zFace g q (zSetRs a f x))) 0 0 := by
  refine zM.of (cc := cX2_setReserve) (nL := 5) (ret := (some .int)) (lv := [(0, .ref (q 0)), (1, .int (nI f)), (2, .int (nI x))]) (by decide) rfl (Nat.le_of_ble_eq_true rfl) rfl ?_
  intro E C0 hi
  have C : zC g E cX2_setReserve RX2 wsX2_setReserve 5 (some .int) := C0
  have hi9 := ha
  have ha := hi9.1
  obtain ⟨hnf, hnd, hnb, hou, hrs, hbd⟩ := id ha
  have h1 := zInv_setRs (f := f) hi9 hx
  have hnb1 : zNb (zSetRs a f x) = zNb a := rfl
  refine z_aload_n C dX2_setReserve_0 0 rfl ?_
  refine z_iload_n C dX2_setReserve_1 1 rfl ?_
  refine z_callV C (c_X2_requireField l g q a bs wb pd gw ha f (by omega)) (cwV 1 C.ts gX2_setReserve_X2_requireField rfl rfl rfl (by decide +kernel) ⟨Nat.le_of_ble_eq_true rfl, Nat.le_of_ble_eq_true rfl⟩) wB_o rfl rfl rfl (Nat.le_of_ble_eq_true rfl) dX2_setReserve_2 ⟨Nat.zero_le _, Nat.zero_le _⟩ (z_v ?_)
  refine z_iload_n C dX2_setReserve_5 2 rfl ?_
  refine z_callS C (c_X2_requireReserve l g (wB g q a (zG0 a) bs wb pd gw) x (by omega)) (va_cwS 1 C.ts gX2_setReserve_X2_requireReserve rfl rfl rfl (by decide +kernel) ⟨Nat.le_of_ble_eq_true rfl, Nat.le_of_ble_eq_true rfl⟩) rfl rfl (Nat.le_of_ble_eq_true rfl) dX2_setReserve_6 ⟨Nat.zero_le _, Nat.zero_le _⟩ (z_v ?_)
  refine z_aload_n C dX2_setReserve_9 0 rfl ?_
  refine z_get C inX2_setReserve_X2 0 wB_o rfl 0 (by decide) (C.w 1 rfl) rfl dX2_setReserve_10 ?_
  refine z_iload_n C dX2_setReserve_13 1 rfl ?_
  refine z_ialdN C 1 wB_rs (by omega) (by decide) dX2_setReserve_14 (v := nI (zRs a f)) rfl ?_
  have f_14b := (ha.rs (f := f) (by omega))
  refine z_istore_n C dX2_setReserve_15 (by decide) [(3, .int (nI (zRs a f))), (0, .ref (q 0)), (1, .int (nI f)), (2, .int (nI x))] rfl ?_
  refine z_aload_n C dX2_setReserve_16 1 rfl ?_
  refine z_get C inX2_setReserve_X2 0 wB_o rfl 0 (by decide) (C.w 1 rfl) rfl dX2_setReserve_17 ?_
  refine z_iload_n C dX2_setReserve_20 2 rfl ?_
  refine z_iload_n C dX2_setReserve_21 3 rfl ?_
  refine z_iastN C 1 wB_rs (by omega) (by decide) dX2_setReserve_22 (wB_set_rs f x) ?_
  refine z_iconst C (nI 0) dX2_setReserve_23 (by decide) ?_
  refine z_istore C dX2_setReserve_24 (by decide) [(4, .int (nI 0)), (3, .int (nI (zRs a f))), (0, .ref (q 0)), (1, .int (nI f)), (2, .int (nI x))] rfl ?_
  rw [show zG0 a = (fun k => if k < 0 then zGn (zSetRs a f x) k else zG0 a k) from by funext k; simp]
  refine zW.pick (lv' := [(0, .ref (q 0)), (1, .int (nI f)), (2, .int (nI x)), (3, .int (nI (zRs a f))), (4, .int (nI 0))]) [2, 3, 4, 1, 0] rfl ?_
  have hlp26 : ∀ (k i : Nat), i + k = zNb a → zW g l ({ frames := 30, cells := 0, slots := 0, locals := 798 }) E (zMQ g E (zPie (nI (zRs a f)) (zFace g q (zSetRs a f x))) 0 0) 5 0 0 (wB g q (zSetRs a f x) (fun k => if k < i then zGn (zSetRs a f x) k else zG0 a k) bs wb pd gw) [(0, .ref (q 0)), (1, .int (nI f)), (2, .int (nI x)), (3, .int (nI (zRs a f))), (4, .int (nI i))] [] 26 := by
    intro k
    induction k with
    | zero =>
      intro i hik
      refine z_iload C dX2_setReserve_26 4 rfl ?_
      refine z_aload_n C dX2_setReserve_28 0 rfl ?_
      refine z_get C inX2_setReserve_X2 0 wB_o rfl 10 (by decide) (C.w 2 rfl) rfl dX2_setReserve_29 ?_
      refine z_icmp_ge C 54 dX2_setReserve_32 (by decide) (zle_NN (by omega) (by omega)) (fun c_32 => ?_) (fun h9 => absurd (by omega) h9)
      rw [show i = zNb a by omega, zGi_end]
      refine z_aload_n C dX2_setReserve_54 0 rfl ?_
      refine z_aload_n C dX2_setReserve_55 0 rfl ?_
      refine z_get C inX2_setReserve_X2 0 wB_o rfl 11 (by decide) (C.w 4 rfl) rfl dX2_setReserve_56 ?_
      refine z_iconst C (nI 0) dX2_setReserve_59 (by decide) ?_
      refine z_callV C (c_X2_settle l g q (zSetRs a f x) bs wb pd gw 0 h1.1 (by decide) 0) (cwV 2 C.ts gX2_setReserve_X2_settle rfl rfl rfl (by decide +kernel) ⟨Nat.le_of_ble_eq_true rfl, Nat.le_of_ble_eq_true rfl⟩) wB_o rfl rfl rfl (Nat.le_of_ble_eq_true rfl) dX2_setReserve_60 ⟨Nat.zero_le _, Nat.zero_le _⟩ (z_e ?_)
      rintro _ ⟨bs2, wb2, pd2, gw2, rfl, hs2, hk2⟩
      refine z_iload_n C dX2_setReserve_63 3 rfl ?_
      exact z_iretE C dX2_setReserve_64 rfl ⟨_, _, _, _, rfl, hs2⟩
    | succ k ih26 =>
      intro i hik
      have hpp := zSetPr_id (zSetRs a f x) i
      refine z_iload C dX2_setReserve_26 4 rfl ?_
      refine z_aload_n C dX2_setReserve_28 0 rfl ?_
      refine z_get C inX2_setReserve_X2 0 wB_o rfl 10 (by decide) (C.w 2 rfl) rfl dX2_setReserve_29 ?_
      refine z_icmp_ge C 54 dX2_setReserve_32 (by decide) (zle_NN (by omega) (by omega)) (fun h9 => absurd h9 (by omega)) (fun c_32 => ?_)
      refine z_aload_n C dX2_setReserve_35 0 rfl ?_
      refine z_iload C dX2_setReserve_36 4 rfl ?_
      refine z_aload_n C dX2_setReserve_38 0 rfl ?_
      refine z_get C inX2_setReserve_X2 0 wB_o rfl 6 (by decide) (C.w 3 rfl) rfl dX2_setReserve_39 ?_
      refine z_iload C dX2_setReserve_42 4 rfl ?_
      refine z_ialdN C 5 wB_pr (by omega) (by decide) dX2_setReserve_44 (v := nI (zPr (zSetRs a f x) i)) rfl ?_
      have f_44b := (h1.1.pr (b := i) (by omega))
      refine z_callV C (c_X2_putPrice l g q (zSetRs a f x) bs wb pd gw (fun k => if k < i then zGn (zSetRs a f x) k else zG0 a k) h1.1 i (zPr (zSetRs a f x) i) (by omega) (by rw [hpp]; exact h1.1)) (cwV 2 C.ts gX2_setReserve_X2_putPrice rfl rfl rfl (by decide +kernel) ⟨Nat.le_of_ble_eq_true rfl, Nat.le_of_ble_eq_true rfl⟩) wB_o rfl rfl rfl (Nat.le_of_ble_eq_true rfl) dX2_setReserve_45 ⟨Nat.zero_le _, Nat.zero_le _⟩ (z_v ?_)
      rw [hpp, show va_up (fun k => if k < i then zGn (zSetRs a f x) k else zG0 a k) i ((zPr (zSetRs a f x) i : Int) - (zRes (zSetRs a f x) (zBu (zSetRs a f x) i) : Int)) = (fun k => if k < (i + 1) then zGn (zSetRs a f x) k else zG0 a k) from zGi_up a f x i]
      refine z_iinc C dX2_setReserve_48 4 (nI (i + 1)) rfl (nI_add i 1) (by decide) [(4, .int (nI (i + 1))), (0, .ref (q 0)), (1, .int (nI f)), (2, .int (nI x)), (3, .int (nI (zRs a f)))] rfl ?_
      refine z_goto C 26 dX2_setReserve_51 (by decide) ?_
      refine zW.pick (lv' := [(0, .ref (q 0)), (1, .int (nI f)), (2, .int (nI x)), (3, .int (nI (zRs a f))), (4, .int (nI (i + 1)))]) [1, 2, 3, 4, 0] rfl ?_
      exact ih26 (i + 1) (by omega)
  exact hlp26 (zNb a) 0 (by omega)
theorem inX2_join_X2 : ∀ w ∈ wsX20, w ∈ wsX2_join := fun w h => List.mem_cons_of_mem _ (List.mem_append_left _ (List.mem_append_left _ (List.mem_append_left _ (List.mem_append_right _ (h)))))
set_option maxRecDepth 100000 in
set_option maxHeartbeats 4000000 in
theorem c_X2_join (l : Launch) (g : zG) (q : Nat → Nat) (a : zS) (bs : Nat → Int × Nat) (wb pd gw : Nat → Nat → Int) (ha : zInv a) (hs : zSet a bs wb pd gw 0 0) (hd : zNd a < 5) : zM g l yX2_join wsX2_join { frames := 30, cells := 0, slots := 0, locals := 798 } [.ref (q 0)] (wB g q a (zG0 a) bs wb pd gw) (zPie (nI (zNd a)) (zFace g q (zSetNd a (zNd a + 1)))) 0 0 := by
  refine zM.of (cc := cX2_join) (nL := 2) (ret := (some .int)) (lv := [(0, .ref (q 0))]) (by decide) rfl (Nat.le_of_ble_eq_true rfl) rfl ?_
  intro E C0 hi
  have C : zC g E cX2_join RX2 wsX2_join 2 (some .int) := C0
  have hi9 := ha
  have ha := hi9.1
  obtain ⟨hnf, hnd, hnb, hou, hrs, hbd⟩ := id ha
  have h1 := zInv_join hi9 hd
  refine z_aload_n C dX2_join_0 0 rfl ?_
  refine z_get C inX2_join_X2 0 wB_o rfl 3 (by decide) (C.w 3 rfl) rfl dX2_join_1 ?_
  refine z_iconst C (nI 5) dX2_join_4 (by decide) ?_
  refine z_icmp_lt C 18 dX2_join_5 (by decide) (zlt_NN (by omega) (by omega)) (fun c_5 => ?_) (fun h9 => absurd (by omega) h9)
  refine z_aload_n C dX2_join_18 0 rfl ?_
  refine z_get C inX2_join_X2 0 wB_o rfl 3 (by decide) (C.w 3 rfl) rfl dX2_join_19 ?_
  refine z_istore_n C dX2_join_22 (by decide) [(1, .int (nI (zNd a))), (0, .ref (q 0))] rfl ?_
  refine z_aload_n C dX2_join_23 1 rfl ?_
  refine z_get C inX2_join_X2 0 wB_o rfl 2 (by decide) (C.w 4 rfl) rfl dX2_join_24 ?_
  refine z_iload_n C dX2_join_27 0 rfl ?_
  refine z_iconst C (nI 1) dX2_join_28 (by decide) ?_
  refine z_zastN C 2 wB_in (by omega) (by decide) (y := bI true) (by decide) dX2_join_29 wB_join1 ?_
  refine z_aload_n C dX2_join_30 1 rfl ?_
  refine z_dup C dX2_join_31 rfl ?_
  refine z_get C inX2_join_X2 0 rfl rfl 3 (by decide) (C.w 3 rfl) rfl dX2_join_32 ?_
  refine z_iconst C (nI 1) dX2_join_35 (by decide) ?_
  refine z_iadd C dX2_join_36 (v := nI ((zNd a) + 1)) (nI_add (zNd a) 1) ?_
  refine z_put C inX2_join_X2 tyX2_ok nmX2 0 rfl rfl 3 (by decide) (C.w 3 rfl) rfl (tyX2_ok 3 (by decide)) rfl rfl (Nat.le_of_ble_eq_true rfl) dX2_join_37 (wB_join2 ha) ?_
  refine z_aload_n C dX2_join_40 1 rfl ?_
  refine z_aload_n C dX2_join_41 1 rfl ?_
  refine z_get C inX2_join_X2 0 wB_o rfl 11 (by decide) (C.w 5 rfl) rfl dX2_join_42 ?_
  refine z_iconst C (nI 0) dX2_join_45 (by decide) ?_
  refine z_callV C (c_X2_settle l g q (zSetNd a (zNd a + 1)) bs wb pd gw 0 h1.1 (by decide) 0) (cwV 2 C.ts gX2_join_X2_settle rfl rfl rfl (by decide +kernel) ⟨Nat.le_of_ble_eq_true rfl, Nat.le_of_ble_eq_true rfl⟩) wB_o rfl rfl rfl (Nat.le_of_ble_eq_true rfl) dX2_join_46 ⟨Nat.zero_le _, Nat.zero_le _⟩ (z_e ?_)
  rintro _ ⟨bs2, wb2, pd2, gw2, rfl, hs2, hk2⟩
  refine z_iload_n C dX2_join_49 0 rfl ?_
  exact z_iretE C dX2_join_50 rfl ⟨_, _, _, _, rfl, hs2⟩
theorem inX2_setIn_X2 : ∀ w ∈ wsX20, w ∈ wsX2_setIn := fun w h => List.mem_cons_of_mem _ (List.mem_append_left _ (List.mem_append_left _ (List.mem_append_left _ (List.mem_append_right _ (h)))))
set_option maxRecDepth 100000 in
set_option maxHeartbeats 4000000 in
theorem c_X2_setIn (l : Launch) (g : zG) (q : Nat → Nat) (a : zS) (bs : Nat → Int × Nat) (wb pd gw : Nat → Nat → Int) (ha : zInv a) (hs : zSet a bs wb pd gw 0 0) (d : Nat) (hd : d < zNd a) (v : Bool) : zM g l yX2_setIn wsX2_setIn { frames := 30, cells := 0, slots := 0, locals := 798 } [.ref (q 0), .int (nI d), .int (bI v)] (wB g q a (zG0 a) bs wb pd gw) (zPie (bI (zIn a d)) (zFace g q (zSetOu a (zOuIn (zOu a) d v)))) 0 0 := by
  refine zM.of (cc := cX2_setIn) (nL := 4) (ret := (some .boolean)) (lv := [(0, .ref (q 0)), (1, .int (nI d)), (2, .int (bI v))]) (by decide) rfl (Nat.le_of_ble_eq_true rfl) rfl ?_
  intro E C0 hi
  have C : zC g E cX2_setIn RX2 wsX2_setIn 4 (some .boolean) := C0
  have hi9 := ha
  have ha := hi9.1
  obtain ⟨hnf, hnd, hnb, hou, hrs, hbd⟩ := id ha
  have h1 := zInv_setOu hi9 hd v
  refine z_aload_n C dX2_setIn_0 0 rfl ?_
  refine z_iload_n C dX2_setIn_1 1 rfl ?_
  refine z_callV C (c_X2_requireBidder l g q a bs wb pd gw ha d (by omega)) (cwV 1 C.ts gX2_setIn_X2_requireBidder rfl rfl rfl (by decide +kernel) ⟨Nat.le_of_ble_eq_true rfl, Nat.le_of_ble_eq_true rfl⟩) wB_o rfl rfl rfl (Nat.le_of_ble_eq_true rfl) dX2_setIn_2 ⟨Nat.zero_le _, Nat.zero_le _⟩ (z_v ?_)
  refine z_aload_n C dX2_setIn_5 0 rfl ?_
  refine z_get C inX2_setIn_X2 0 wB_o rfl 2 (by decide) (C.w 1 rfl) rfl dX2_setIn_6 ?_
  refine z_iload_n C dX2_setIn_9 1 rfl ?_
  refine z_zaldN C 2 wB_in (by omega) (by decide) dX2_setIn_10 (v := bI (zIn a d)) rfl ?_
  refine z_istore_n C dX2_setIn_11 (by decide) [(3, .int (bI (zIn a d))), (0, .ref (q 0)), (1, .int (nI d)), (2, .int (bI v))] rfl ?_
  refine z_aload_n C dX2_setIn_12 1 rfl ?_
  refine z_get C inX2_setIn_X2 0 wB_o rfl 2 (by decide) (C.w 1 rfl) rfl dX2_setIn_13 ?_
  refine z_iload_n C dX2_setIn_16 2 rfl ?_
  refine z_iload_n C dX2_setIn_17 3 rfl ?_
  refine z_zastN C 2 wB_in (by omega) (by decide) (zbI_vp _) dX2_setIn_18 (wB_setIn ha hd v) ?_
  refine z_aload_n C dX2_setIn_19 1 rfl ?_
  refine z_aload_n C dX2_setIn_20 1 rfl ?_
  refine z_get C inX2_setIn_X2 0 wB_o rfl 11 (by decide) (C.w 2 rfl) rfl dX2_setIn_21 ?_
  refine z_iconst C (nI 0) dX2_setIn_24 (by decide) ?_
  refine z_callV C (c_X2_settle l g q (zSetOu a (zOuIn (zOu a) d v)) bs wb pd gw 0 h1.1 (by decide) 0) (cwV 2 C.ts gX2_setIn_X2_settle rfl rfl rfl (by decide +kernel) ⟨Nat.le_of_ble_eq_true rfl, Nat.le_of_ble_eq_true rfl⟩) wB_o rfl rfl rfl (Nat.le_of_ble_eq_true rfl) dX2_setIn_25 ⟨Nat.zero_le _, Nat.zero_le _⟩ (z_e ?_)
  rintro _ ⟨bs2, wb2, pd2, gw2, rfl, hs2, hk2⟩
  refine z_iload_n C dX2_setIn_28 0 rfl ?_
  exact z_zretE C dX2_setIn_29 rfl ⟨_, _, _, _, rfl, hs2⟩
theorem inX2_bid_X2 : ∀ w ∈ wsX20, w ∈ wsX2_bid := fun w h => List.mem_cons_of_mem _ (List.mem_append_left _ (List.mem_append_left _ (List.mem_append_left _ (List.mem_append_left _ (List.mem_append_left _ (List.mem_append_right _ (h)))))))
set_option maxRecDepth 100000 in
set_option maxHeartbeats 4000000 in
theorem c_X2_bid (l : Launch) (g : zG) (q : Nat → Nat) (a : zS) (bs : Nat → Int × Nat) (wb pd gw : Nat → Nat → Int) (ha : zInv a) (hs : zSet a bs wb pd gw 0 0) (d m x : Nat) (hd : d < zNd a) (hm0 : 0 < m) (hm : m < 2 ^ zNf a) (hx : x ≤ 999) (hb : zNb a < 12) : zM g l yX2_bid wsX2_bid { frames := 30, cells := 0, slots := 0, locals := 798 } [.ref (q 0), .int (nI d), .int (nI m), .int (nI x)] (wB g q a (zG0 a) bs wb pd gw) (zPie (nI (zNb a)) (zFace g q (zBid a d m x))) 0 0 := by
  refine zM.of (cc := cX2_bid) (nL := 5) (ret := (some .int)) (lv := [(0, .ref (q 0)), (1, .int (nI d)), (2, .int (nI m)), (3, .int (nI x))]) (by decide) rfl (Nat.le_of_ble_eq_true rfl) rfl ?_
  intro E C0 hi
  have C : zC g E cX2_bid RX2 wsX2_bid 5 (some .int) := C0
  have hi9 := ha
  have ha := hi9.1
  obtain ⟨hnf, hnd, hnb, hou, hrs, hbd⟩ := id ha
  have h1 := zInv_bid hi9 hd hm0 hm hx hb
  have h2 := zOk_at ha d m x x
  refine z_aload_n C dX2_bid_0 0 rfl ?_
  refine z_iload_n C dX2_bid_1 1 rfl ?_
  refine z_callV C (c_X2_requireBidder l g q a bs wb pd gw ha d (by omega)) (cwV 1 C.ts gX2_bid_X2_requireBidder rfl rfl rfl (by decide +kernel) ⟨Nat.le_of_ble_eq_true rfl, Nat.le_of_ble_eq_true rfl⟩) wB_o rfl rfl rfl (Nat.le_of_ble_eq_true rfl) dX2_bid_2 ⟨Nat.zero_le _, Nat.zero_le _⟩ (z_v ?_)
  refine z_aload_n C dX2_bid_5 0 rfl ?_
  refine z_iload_n C dX2_bid_6 2 rfl ?_
  refine z_callV C (c_X2_requireBundle l g q a bs wb pd gw ha m (by omega) hm) (cwV 1 C.ts gX2_bid_X2_requireBundle rfl rfl rfl (by decide +kernel) ⟨Nat.le_of_ble_eq_true rfl, Nat.le_of_ble_eq_true rfl⟩) wB_o rfl rfl rfl (Nat.le_of_ble_eq_true rfl) dX2_bid_7 ⟨Nat.zero_le _, Nat.zero_le _⟩ (z_v ?_)
  refine z_iload_n C dX2_bid_10 3 rfl ?_
  refine z_callS C (c_X2_requireAmount l g (wB g q a (zG0 a) bs wb pd gw) x (by omega)) (va_cwS 1 C.ts gX2_bid_X2_requireAmount rfl rfl rfl (by decide +kernel) ⟨Nat.le_of_ble_eq_true rfl, Nat.le_of_ble_eq_true rfl⟩) rfl rfl (Nat.le_of_ble_eq_true rfl) dX2_bid_11 ⟨Nat.zero_le _, Nat.zero_le _⟩ (z_v ?_)
  refine z_aload_n C dX2_bid_14 0 rfl ?_
  refine z_get C inX2_bid_X2 0 wB_o rfl 10 (by decide) (C.w 3 rfl) rfl dX2_bid_15 ?_
  refine z_bipush C (nI 12) dX2_bid_18 (by decide) ?_
  refine z_icmp_lt C 33 dX2_bid_20 (by decide) (zlt_NN (by omega) (by omega)) (fun c_20 => ?_) (fun h9 => absurd (by omega) h9)
  refine z_aload_n C dX2_bid_33 0 rfl ?_
  refine z_get C inX2_bid_X2 0 wB_o rfl 10 (by decide) (C.w 3 rfl) rfl dX2_bid_34 ?_
  refine z_istore C dX2_bid_37 (by decide) [(4, .int (nI (zNb a))), (0, .ref (q 0)), (1, .int (nI d)), (2, .int (nI m)), (3, .int (nI x))] rfl ?_
  refine z_aload_n C dX2_bid_39 1 rfl ?_
  refine z_get C inX2_bid_X2 0 wB_o rfl 4 (by decide) (C.w 4 rfl) rfl dX2_bid_40 ?_
  refine z_iload C dX2_bid_43 0 rfl ?_
  refine z_iload_n C dX2_bid_45 2 rfl ?_
  refine z_iastN C 3 wB_ow (by omega) (by decide) dX2_bid_46 (wB_set_ow (zNb a) d) ?_
  refine z_aload_n C dX2_bid_47 1 rfl ?_
  refine z_get C inX2_bid_X2 0 wB_o rfl 5 (by decide) (C.w 5 rfl) rfl dX2_bid_48 ?_
  refine z_iload C dX2_bid_51 0 rfl ?_
  refine z_iload_n C dX2_bid_53 3 rfl ?_
  refine z_iastN C 4 wB_bu (by omega) (by decide) dX2_bid_54 (wB_set_bu (zNb a) m) ?_
  refine z_aload_n C dX2_bid_55 1 rfl ?_
  refine z_get C inX2_bid_X2 0 wB_o rfl 8 (by decide) (C.w 6 rfl) rfl dX2_bid_56 ?_
  refine z_iload C dX2_bid_59 0 rfl ?_
  refine z_iload_n C dX2_bid_61 4 rfl ?_
  refine z_iastN C 7 wB_wo (by omega) (by decide) dX2_bid_62 (wB_set_wo (zNb a) x) ?_
  refine z_aload_n C dX2_bid_63 1 rfl ?_
  refine z_iload C dX2_bid_64 0 rfl ?_
  refine z_iload_n C dX2_bid_66 4 rfl ?_
  refine z_callV C (c_X2_putPrice l g q (zSetWo (zSetBu (zSetOw a (zNb a) d) (zNb a) m) (zNb a) x) bs wb pd gw (zG0 a) h2.2 (zNb a) x (by omega) h2.1) (cwV 2 C.ts gX2_bid_X2_putPrice rfl rfl rfl (by decide +kernel) ⟨Nat.le_of_ble_eq_true rfl, Nat.le_of_ble_eq_true rfl⟩) wB_o rfl rfl rfl (Nat.le_of_ble_eq_true rfl) dX2_bid_67 ⟨Nat.zero_le _, Nat.zero_le _⟩ (z_v ?_)
  refine z_aload_n C dX2_bid_70 1 rfl ?_
  refine z_dup C dX2_bid_71 rfl ?_
  refine z_get C inX2_bid_X2 0 wB_o rfl 10 (by decide) (C.w 3 rfl) rfl dX2_bid_72 ?_
  refine z_iconst C (nI 1) dX2_bid_75 (by decide) ?_
  refine z_iadd C dX2_bid_76 (v := nI ((zNb (zSetPr (zSetWo (zSetBu (zSetOw a (zNb a) d) (zNb a) m) (zNb a) x) (zNb a) x)) + 1)) (nI_add (zNb (zSetPr (zSetWo (zSetBu (zSetOw a (zNb a) d) (zNb a) m) (zNb a) x) (zNb a) x)) 1) ?_
  refine z_put C inX2_bid_X2 tyX2_ok nmX2 0 wB_o rfl 10 (by decide) (C.w 3 rfl) rfl (tyX2_ok 10 (by decide)) rfl rfl (Nat.le_of_ble_eq_true rfl) dX2_bid_77 (wB_set_nb _) ?_
  rw [show va_up (zG0 a) (zNb a) _ = zG0 (zBid a d m x) from (by rw [← zG0_bid]; show va_up (zG0 a) (zNb a) ((x : Int) - (zRes a (va_up (zBu a) (zNb a) m (zNb a)) : Int)) = _; rw [va_up_self])]
  refine z_aload_n C dX2_bid_80 1 rfl ?_
  refine z_aload_n C dX2_bid_81 1 rfl ?_
  refine z_get C inX2_bid_X2 0 wB_o rfl 11 (by decide) (C.w 7 rfl) rfl dX2_bid_82 ?_
  refine z_iconst C (nI 0) dX2_bid_85 (by decide) ?_
  refine z_callV C (c_X2_settle l g q (zBid a d m x) bs wb pd gw 0 h1.1 (by decide) 0) (cwV 2 C.ts gX2_bid_X2_settle rfl rfl rfl (by decide +kernel) ⟨Nat.le_of_ble_eq_true rfl, Nat.le_of_ble_eq_true rfl⟩) wB_o rfl rfl rfl (Nat.le_of_ble_eq_true rfl) dX2_bid_86 ⟨Nat.zero_le _, Nat.zero_le _⟩ (z_e ?_)
  rintro _ ⟨bs2, wb2, pd2, gw2, rfl, hs2, hk2⟩
  refine z_iload C dX2_bid_89 0 rfl ?_
  exact z_iretE C dX2_bid_91 rfl ⟨_, _, _, _, rfl, hs2⟩
theorem inX2_setPrice_X2 : ∀ w ∈ wsX20, w ∈ wsX2_setPrice := fun w h => List.mem_cons_of_mem _ (List.mem_append_left _ (List.mem_append_left _ (List.mem_append_left _ (List.mem_append_left _ (List.mem_append_right _ (h))))))
set_option maxRecDepth 100000 in
set_option maxHeartbeats 4000000 in
theorem c_X2_setPrice (l : Launch) (g : zG) (q : Nat → Nat) (a : zS) (bs : Nat → Int × Nat) (wb pd gw : Nat → Nat → Int) (ha : zInv a) (hs : zSet a bs wb pd gw 0 0) (b x : Nat) (hb : b < zNb a) (hx : x ≤ 999) : zM g l yX2_setPrice wsX2_setPrice { frames := 30, cells := 0, slots := 0, locals := 798 } [.ref (q 0), .int (nI b), .int (nI x)] (wB g q a (zG0 a) bs wb pd gw) (zPie (nI (zPr a b)) (zFace g q (zSetPr a b x))) 0 0 := by
  refine zM.of (cc := cX2_setPrice) (nL := 4) (ret := (some .int)) (lv := [(0, .ref (q 0)), (1, .int (nI b)), (2, .int (nI x))]) (by decide) rfl (Nat.le_of_ble_eq_true rfl) rfl ?_
  intro E C0 hi
  have C : zC g E cX2_setPrice RX2 wsX2_setPrice 4 (some .int) := C0
  have hi9 := ha
  have ha := hi9.1
  obtain ⟨hnf, hnd, hnb, hou, hrs, hbd⟩ := id ha
  have h1 := zInv_setPr (b := b) hi9 hx
  refine z_aload_n C dX2_setPrice_0 0 rfl ?_
  refine z_iload_n C dX2_setPrice_1 1 rfl ?_
  refine z_callV C (c_X2_requireBid l g q a bs wb pd gw ha b (by omega)) (cwV 1 C.ts gX2_setPrice_X2_requireBid rfl rfl rfl (by decide +kernel) ⟨Nat.le_of_ble_eq_true rfl, Nat.le_of_ble_eq_true rfl⟩) wB_o rfl rfl rfl (Nat.le_of_ble_eq_true rfl) dX2_setPrice_2 ⟨Nat.zero_le _, Nat.zero_le _⟩ (z_v ?_)
  refine z_iload_n C dX2_setPrice_5 2 rfl ?_
  refine z_callS C (c_X2_requireAmount l g (wB g q a (zG0 a) bs wb pd gw) x (by omega)) (va_cwS 1 C.ts gX2_setPrice_X2_requireAmount rfl rfl rfl (by decide +kernel) ⟨Nat.le_of_ble_eq_true rfl, Nat.le_of_ble_eq_true rfl⟩) rfl rfl (Nat.le_of_ble_eq_true rfl) dX2_setPrice_6 ⟨Nat.zero_le _, Nat.zero_le _⟩ (z_v ?_)
  refine z_aload_n C dX2_setPrice_9 0 rfl ?_
  refine z_get C inX2_setPrice_X2 0 wB_o rfl 6 (by decide) (C.w 1 rfl) rfl dX2_setPrice_10 ?_
  refine z_iload_n C dX2_setPrice_13 1 rfl ?_
  refine z_ialdN C 5 wB_pr (by omega) (by decide) dX2_setPrice_14 (v := nI (zPr a b)) rfl ?_
  have f_14b := (ha.pr (b := b) (by omega))
  refine z_istore_n C dX2_setPrice_15 (by decide) [(3, .int (nI (zPr a b))), (0, .ref (q 0)), (1, .int (nI b)), (2, .int (nI x))] rfl ?_
  refine z_aload_n C dX2_setPrice_16 1 rfl ?_
  refine z_iload_n C dX2_setPrice_17 2 rfl ?_
  refine z_iload_n C dX2_setPrice_18 3 rfl ?_
  refine z_callV C (c_X2_putPrice l g q a bs wb pd gw (zG0 a) ha b x (by omega) h1.1) (cwV 2 C.ts gX2_setPrice_X2_putPrice rfl rfl rfl (by decide +kernel) ⟨Nat.le_of_ble_eq_true rfl, Nat.le_of_ble_eq_true rfl⟩) wB_o rfl rfl rfl (Nat.le_of_ble_eq_true rfl) dX2_setPrice_19 ⟨Nat.zero_le _, Nat.zero_le _⟩ (z_v ?_)
  rw [zG0_setPr _ (by omega)]
  refine z_aload_n C dX2_setPrice_22 1 rfl ?_
  refine z_aload_n C dX2_setPrice_23 1 rfl ?_
  refine z_get C inX2_setPrice_X2 0 wB_o rfl 11 (by decide) (C.w 2 rfl) rfl dX2_setPrice_24 ?_
  refine z_iconst C (nI 0) dX2_setPrice_27 (by decide) ?_
  refine z_callV C (c_X2_settle l g q (zSetPr a b x) bs wb pd gw 0 h1.1 (by decide) 0) (cwV 2 C.ts gX2_setPrice_X2_settle rfl rfl rfl (by decide +kernel) ⟨Nat.le_of_ble_eq_true rfl, Nat.le_of_ble_eq_true rfl⟩) wB_o rfl rfl rfl (Nat.le_of_ble_eq_true rfl) dX2_setPrice_28 ⟨Nat.zero_le _, Nat.zero_le _⟩ (z_e ?_)
  rintro _ ⟨bs2, wb2, pd2, gw2, rfl, hs2, hk2⟩
  refine z_iload_n C dX2_setPrice_31 0 rfl ?_
  exact z_iretE C dX2_setPrice_32 rfl ⟨_, _, _, _, rfl, hs2⟩
theorem zDfs_wo (a : zS) (b x : Nat) (ab : Nat) : zFw (zSetWo a b x) ab = zFw a ab := zDfs_cong (a := zSetWo a b x) (a' := a) (n := zNb a) (fun _ _ => ⟨rfl, rfl, rfl, rfl⟩) _ _ _ _ _ _ _ (by show 0 + zNb a ≤ _; omega)
theorem zLp_wo (a : zS) (b x ab e : Nat) : ∀ n, zLp (zSetWo a b x) ab n e = zLp a ab n e
  | 0 => rfl
  | n + 1 => by
    unfold zLp
    rw [zLp_wo a b x ab e n, zDfs_wo]
    unfold zGw
    rw [zDfs_wo]
    rfl
theorem zSet_wo {a : zS} {b x : Nat} {bs : Nat → Int × Nat} {wb pd gw : Nat → Nat → Int} {z ab : Nat} (h : zSet a bs wb pd gw z ab) : zSet (zSetWo a b x) bs wb pd gw z ab := by
  refine ⟨by rw [zDfs_wo]; exact h.1, fun d hd => ?_⟩
  obtain ⟨h1, h2, h3⟩ := h.2 d hd
  refine ⟨?_, ?_, ?_⟩
  · rw [h1, zDfs_wo]; exact (zLw_cong (a := zSetWo a b x) (a' := a) _ (fun _ _ => rfl)).symm
  · rw [h2]; exact (zLp_wo a b x ab d _).symm
  · rw [h3]; unfold zGw; rw [zDfs_wo]; rfl
theorem inX2_setWorth_X2 : ∀ w ∈ wsX20, w ∈ wsX2_setWorth := fun w h => List.mem_cons_of_mem _ (List.mem_append_left _ (List.mem_append_left _ (List.mem_append_right _ (h))))
set_option maxRecDepth 100000 in
set_option maxHeartbeats 4000000 in
theorem c_X2_setWorth (l : Launch) (g : zG) (q : Nat → Nat) (a : zS) (bs : Nat → Int × Nat) (wb pd gw : Nat → Nat → Int) (ha : zInv a) (hs : zSet a bs wb pd gw 0 0) (b x : Nat) (hb : b < zNb a) (hx : x ≤ 999) : zM g l yX2_setWorth wsX2_setWorth { frames := 1, cells := 0, slots := 0, locals := 21 } [.ref (q 0), .int (nI b), .int (nI x)] (wB g q a (zG0 a) bs wb pd gw) (zPie (nI (zWo a b)) (zFace g q (zSetWo a b x))) 0 0 := by
  refine zM.of (cc := cX2_setWorth) (nL := 4) (ret := (some .int)) (lv := [(0, .ref (q 0)), (1, .int (nI b)), (2, .int (nI x))]) (by decide) rfl (Nat.le_of_ble_eq_true rfl) rfl ?_
  intro E C0 hi
  have C : zC g E cX2_setWorth RX2 wsX2_setWorth 4 (some .int) := C0
  have hi9 := ha
  have ha := hi9.1
  obtain ⟨hnf, hnd, hnb, hou, hrs, hbd⟩ := id ha
  refine z_aload_n C dX2_setWorth_0 0 rfl ?_
  refine z_iload_n C dX2_setWorth_1 1 rfl ?_
  refine z_callV C (c_X2_requireBid l g q a bs wb pd gw ha b (by omega)) (cwV 1 C.ts gX2_setWorth_X2_requireBid rfl rfl rfl (by decide +kernel) ⟨Nat.le_of_ble_eq_true rfl, Nat.le_of_ble_eq_true rfl⟩) wB_o rfl rfl rfl (Nat.le_of_ble_eq_true rfl) dX2_setWorth_2 ⟨Nat.zero_le _, Nat.zero_le _⟩ (z_v ?_)
  refine z_iload_n C dX2_setWorth_5 2 rfl ?_
  refine z_callS C (c_X2_requireAmount l g (wB g q a (zG0 a) bs wb pd gw) x (by omega)) (va_cwS 1 C.ts gX2_setWorth_X2_requireAmount rfl rfl rfl (by decide +kernel) ⟨Nat.le_of_ble_eq_true rfl, Nat.le_of_ble_eq_true rfl⟩) rfl rfl (Nat.le_of_ble_eq_true rfl) dX2_setWorth_6 ⟨Nat.zero_le _, Nat.zero_le _⟩ (z_v ?_)
  refine z_aload_n C dX2_setWorth_9 0 rfl ?_
  refine z_get C inX2_setWorth_X2 0 wB_o rfl 8 (by decide) (C.w 1 rfl) rfl dX2_setWorth_10 ?_
  refine z_iload_n C dX2_setWorth_13 1 rfl ?_
  refine z_ialdN C 7 wB_wo (by omega) (by decide) dX2_setWorth_14 (v := nI (zWo a b)) rfl ?_
  have f_14b := (ha.wo (b := b) (by omega))
  refine z_istore_n C dX2_setWorth_15 (by decide) [(3, .int (nI (zWo a b))), (0, .ref (q 0)), (1, .int (nI b)), (2, .int (nI x))] rfl ?_
  refine z_aload_n C dX2_setWorth_16 1 rfl ?_
  refine z_get C inX2_setWorth_X2 0 wB_o rfl 8 (by decide) (C.w 1 rfl) rfl dX2_setWorth_17 ?_
  refine z_iload_n C dX2_setWorth_20 2 rfl ?_
  refine z_iload_n C dX2_setWorth_21 3 rfl ?_
  refine z_iastN C 7 wB_wo (by omega) (by decide) dX2_setWorth_22 (wB_set_wo b x) ?_
  refine z_iload_n C dX2_setWorth_23 0 rfl ?_
  exact z_iretE C dX2_setWorth_24 rfl ⟨bs, wb, pd, gw, rfl, zSet_wo hs⟩
theorem inX2_withdraw_X2 : ∀ w ∈ wsX20, w ∈ wsX2_withdraw := fun w h => List.mem_cons_of_mem _ (List.mem_append_left _ (List.mem_append_left _ (List.mem_append_left _ (List.mem_append_left _ (List.mem_append_right _ (h))))))
set_option maxRecDepth 100000 in
set_option maxHeartbeats 4000000 in
theorem c_X2_withdraw (l : Launch) (g : zG) (q : Nat → Nat) (a : zS) (bs : Nat → Int × Nat) (wb pd gw : Nat → Nat → Int) (ha : zInv a) (hs : zSet a bs wb pd gw 0 0) (b : Nat) (hb : b < zNb a) (hg : zGo a b = 0) : zM g l yX2_withdraw wsX2_withdraw { frames := 30, cells := 0, slots := 0, locals := 798 } [.ref (q 0), .int (nI b)] (wB g q a (zG0 a) bs wb pd gw) (zPie (nI (zSum (zLof (zSetGo a b 1)) (zNd a))) (zFace g q (zSetGo a b 1))) 0 0 := by
  refine zM.of (cc := cX2_withdraw) (nL := 2) (ret := (some .int)) (lv := [(0, .ref (q 0)), (1, .int (nI b))]) (by decide) rfl (Nat.le_of_ble_eq_true rfl) rfl ?_
  intro E C0 hi
  have C : zC g E cX2_withdraw RX2 wsX2_withdraw 2 (some .int) := C0
  have hi9 := ha
  have ha := hi9.1
  obtain ⟨hnf, hnd, hnb, hou, hrs, hbd⟩ := id ha
  have h1 := zInv_setGo hi9 hb
  refine z_aload_n C dX2_withdraw_0 0 rfl ?_
  refine z_iload_n C dX2_withdraw_1 1 rfl ?_
  refine z_callV C (c_X2_requireBid l g q a bs wb pd gw ha b (by omega)) (cwV 1 C.ts gX2_withdraw_X2_requireBid rfl rfl rfl (by decide +kernel) ⟨Nat.le_of_ble_eq_true rfl, Nat.le_of_ble_eq_true rfl⟩) wB_o rfl rfl rfl (Nat.le_of_ble_eq_true rfl) dX2_withdraw_2 ⟨Nat.zero_le _, Nat.zero_le _⟩ (z_v ?_)
  refine z_aload_n C dX2_withdraw_5 0 rfl ?_
  refine z_get C inX2_withdraw_X2 0 wB_o rfl 9 (by decide) (C.w 3 rfl) rfl dX2_withdraw_6 ?_
  refine z_iload_n C dX2_withdraw_9 1 rfl ?_
  refine z_zaldN C 8 wB_go (by omega) (by decide) dX2_withdraw_10 (v := nI (zGo a b)) rfl ?_
  have f_10b := (ha.go (b := b) (by omega))
  refine z_if_eq C 24 dX2_withdraw_11 (by decide) (zeq_N0 (by omega)) (fun c_11 => ?_) (fun h9 => absurd hg h9)
  refine z_aload_n C dX2_withdraw_24 0 rfl ?_
  refine z_get C inX2_withdraw_X2 0 wB_o rfl 9 (by decide) (C.w 3 rfl) rfl dX2_withdraw_25 ?_
  refine z_iload_n C dX2_withdraw_28 1 rfl ?_
  refine z_iconst C (nI 1) dX2_withdraw_29 (by decide) ?_
  refine z_zastN C 8 wB_go (by omega) (by decide) (y := nI 1) (by decide) dX2_withdraw_30 (wB_set_go b 1) ?_
  refine z_aload_n C dX2_withdraw_31 0 rfl ?_
  refine z_aload_n C dX2_withdraw_32 0 rfl ?_
  refine z_get C inX2_withdraw_X2 0 wB_o rfl 11 (by decide) (C.w 4 rfl) rfl dX2_withdraw_33 ?_
  refine z_iconst C (nI 0) dX2_withdraw_36 (by decide) ?_
  refine z_callV C (c_X2_settle l g q (zSetGo a b 1) bs wb pd gw 0 h1.1 (by decide) 0) (cwV 2 C.ts gX2_withdraw_X2_settle rfl rfl rfl (by decide +kernel) ⟨Nat.le_of_ble_eq_true rfl, Nat.le_of_ble_eq_true rfl⟩) wB_o rfl rfl rfl (Nat.le_of_ble_eq_true rfl) dX2_withdraw_37 ⟨Nat.zero_le _, Nat.zero_le _⟩ (z_e ?_)
  rintro _ ⟨bs2, wb2, pd2, gw2, rfl, hs2, hk2⟩
  refine z_aload_n C dX2_withdraw_40 0 rfl ?_
  refine z_callV C (c_X2_bidsLeft l g q (zSetGo a b 1) bs2 wb2 pd2 gw2 h1.1) (cwV 0 C.ts gX2_withdraw_X2_bidsLeft rfl rfl rfl (by decide +kernel) ⟨Nat.le_of_ble_eq_true rfl, Nat.le_of_ble_eq_true rfl⟩) wB_o rfl rfl rfl (Nat.le_of_ble_eq_true rfl) dX2_withdraw_41 ⟨Nat.zero_le _, Nat.zero_le _⟩ (z_i ?_)
  exact z_iretE C dX2_withdraw_44 rfl ⟨_, _, _, _, rfl, hs2⟩
end
section
theorem zn64 {r : UInt64} (h : FP.Core.dIsNaN r = false) : vf_n64 r := by
  have h1 : ¬ 9218868437227405312 < r.toNat % 2 ^ 63 := fun q => by
    rw [(FP.Core.isNaN_bits r).mpr q] at h
    cases h
  unfold vf_n64
  rw [UInt64.le_iff_toNat_le, UInt64.toNat_and]
  show r.toNat &&& (2 ^ 63 - 1) ≤ _
  rw [Nat.and_two_pow_sub_one_eq_mod]
  exact Nat.not_lt.mp h1
theorem zdiv_no (x y : Int32) (hy : y ≠ 0) : FP.Core.dIsNaN (FP.ddiv (FP.i2d x) (FP.i2d y)) = false := by
  refine FP.Core.ddiv_out (a := FP.Core.i2d x) (b := FP.Core.i2d y) ?_ (FP.Core.i2d_fin y) (fun h => FP.Core.i2d_ne_zero hy ((FP.Core.zero_bits2 _).mp h))
  rw [FP.Core.notNaN_iff]
  exact (FP.Core.i2d_fin x).ne_nan
theorem zdiv_ok (x y : Int32) (hy : y ≠ 0) : vf_n64 (FP.ddiv (FP.i2d x) (FP.i2d y)) := zn64 (zdiv_no x y hy)
/-- an answer of told -/
def aTold (a : zS) (b w : Nat) : Int := match w with
  | 0 => (zOw a b : Int)
  | 1 => (zBu a b : Int)
  | 2 => (zPr a b : Int)
  | 3 => (zWo a b : Int)
  | 4 => (zGo a b : Int)
  | 5 => zGn a b
  | 6 => if zCn a (zOu a) b = true then 1 else 0
  | _ => if (zFw a 0).2.testBit b = true then 1 else 0
def aWin (a : zS) (d : Nat) : Int := zLw a (zFw a 0).2 (zNb a) d
def aPaid (a : zS) (d : Nat) : Int := zLp a 0 (zNb a) d
def aProf (a : zS) (d : Nat) : Int := zPfv a (aWin a d) (aPaid a d)
def aAbout (a : zS) (d w : Nat) : Int := match w with
  | 0 => if zIn a d = true then 1 else 0
  | 1 => (zLof a d : Int)
  | 2 => aWin a d
  | 3 => aPaid a d
  | 4 => aProf a d
  | _ => zGw a 0 d
/-- who gets a field: the bid -/
def aWf (a : zS) (f : Nat) : Int := zFst (fun b => (zFw a 0).2.testBit b && (zBu a b).testBit f) 0 (zNb a)
def aLand (a : zS) (f w : Nat) : Int := match w with
  | 0 => (zRs a f : Int)
  | 1 => if aWf a f = -1 then -1 else (zOw a (aWf a f).toNat : Int)
  | _ => (zCnt (fun b => zCn a (zOu a) b && (zBu a b).testBit f) (zNb a) : Int)
def aSold (a : zS) : Nat := zOrs (fun b => if (zFw a 0).2.testBit b = true then zBu a b else 0) (zNb a)
def aCount (a : zS) (w : Nat) : Int := match w with
  | 0 => (zNf a : Int)
  | 1 => (zNd a : Int)
  | 2 => (zNb a : Int)
  | 3 => (zFw a 0).1
  | 4 => (zPop (zFw a 0).2 12 : Int)
  | 5 => (zPop (aSold a) 12 : Int)
  | 6 => zSi (aPaid a) 5
  | 7 => zSi (aProf a) (zNd a)
  | _ => (zSum (fun b => if (zFw a 0).2.testBit b = true then zPr a b else 0) (zNb a) : Int)
def aHi (a : zS) (f : Nat) (lo : Int) : Int := zHi a (zCo a f lo) (zNb a)
def aAlone (a : zS) (f w : Nat) : Int := if aHi a f (-1) = -1 then -1 else match w with
  | 0 => aHi a f (-1)
  | 1 => (zOw a (aHi a f (-1)).toNat : Int)
  | _ => if aHi a f (zOw a (aHi a f (-1)).toNat : Int) = -1 then (zRs a f : Int) else (zPr a (aHi a f (zOw a (aHi a f (-1)).toNat : Int)).toNat : Int)
theorem zOrs_lt {f : Nat → Nat} {k : Nat} : ∀ n, (∀ i, i < n → f i < 2 ^ k) → zOrs f n < 2 ^ k
  | 0, _ => Nat.two_pow_pos k
  | n + 1, h => by
    unfold zOrs
    exact Nat.or_lt_two_pow (zOrs_lt n (fun i hi => h i (by omega))) (h n (by omega))
theorem aSold_lt {a : zS} (ha : zOk a) : aSold a < 256 := by
  unfold aSold
  refine zOrs_lt (k := 8) _ (fun i hi => ?_)
  split
  · exact ha.bu8 hi
  · decide
theorem bI_Z (b : Bool) : bI b = iZ (if b = true then 1 else 0) := by cases b <;> rfl
theorem zSet.wb {a : zS} {bs : Nat → Int × Nat} {wb pd gw : Nat → Nat → Int} {z ab : Nat} (h : zSet a bs wb pd gw z ab) {d : Nat} (hd : d < 5) : wb z d = zLw a (zFw a ab).2 (zNb a) d := (h.2 d hd).1
theorem zSet.pd {a : zS} {bs : Nat → Int × Nat} {wb pd gw : Nat → Nat → Int} {z ab : Nat} (h : zSet a bs wb pd gw z ab) {d : Nat} (hd : d < 5) : pd z d = zLp a ab (zNb a) d := (h.2 d hd).2.1
theorem zSet.gw {a : zS} {bs : Nat → Int × Nat} {wb pd gw : Nat → Nat → Int} {z ab : Nat} (h : zSet a bs wb pd gw z ab) {d : Nat} (hd : d < 5) : gw z d = zGw a ab d := (h.2 d hd).2.2
theorem zSet.wor {a : zS} {bs : Nat → Int × Nat} {wb pd gw : Nat → Nat → Int} {z ab : Nat} (h : zSet a bs wb pd gw z ab) : ∀ d, d < 5 → wb z d = -1 ∨ ∃ c, c < zNb a ∧ wb z d = (c : Int) := by
  intro d hd
  rw [h.wb hd]
  rcases zLw_or a (zFw a ab).2 d (zNb a) with h1 | ⟨c, h1, h2, -⟩
  · exact Or.inl h1
  · exact Or.inr ⟨c, h1, h2⟩
set_option maxRecDepth 100000 in
set_option maxHeartbeats 4000000 in
theorem c_X2_asNumber_N  (l : Launch) (g : zG) (w : va_W) (n : Nat) (hn : n ≤ 1) : zM g l yX2_asNumber wsX2_asNumber { frames := 0, cells := 0, slots := 0, locals := 0 } [.int (nI n)] (w) (zPi (nI n) (w)) 0 0 := by
  refine zM.of (cc := cX2_asNumber) (nL := 1) (ret := (some .int)) (lv := [(0, .int (nI n))]) (by decide) rfl (Nat.le_of_ble_eq_true rfl) rfl ?_
  intro E C0 hi
  have C : zC g E cX2_asNumber RX2 wsX2_asNumber 1 (some .int) := C0
  refine z_iload_n C dX2_asNumber_0 0 rfl ?_
  refine z_if_eq C 8 dX2_asNumber_1 (by decide) (zeq_N0 (by omega)) (fun c_1 => ?_) (fun c_1 => ?_)
  · skip
    refine z_iconst C (nI 0) dX2_asNumber_8 (by decide) ?_
    exact z_iretP C dX2_asNumber_9 (by first | (rw [c_1]; done) | (rw [show n = 1 by omega]; done)) rfl
  · skip
    refine z_iconst C (nI 1) dX2_asNumber_4 (by decide) ?_
    refine z_goto C 9 dX2_asNumber_5 (by decide) ?_
    exact z_iretP C dX2_asNumber_9 (by first | (rw [c_1]; done) | (rw [show n = 1 by omega]; done)) rfl
theorem inX2_told_X1 : ∀ w ∈ wsX10, w ∈ wsX2_told := fun w h => List.mem_cons_of_mem _ (List.mem_append_left _ (List.mem_append_left _ (List.mem_append_right _ (h))))
theorem inX2_told_X2 : ∀ w ∈ wsX20, w ∈ wsX2_told := fun w h => List.mem_cons_of_mem _ (List.mem_append_left _ (List.mem_append_left _ (List.mem_append_left _ (List.mem_append_right _ (h)))))
set_option maxRecDepth 100000 in
set_option maxHeartbeats 4000000 in
theorem c_X2_told (l : Launch) (g : zG) (q : Nat → Nat) (a : zS) (bs : Nat → Int × Nat) (wb pd gw : Nat → Nat → Int) (ha : zOk a) (hs : zSet a bs wb pd gw 0 0) (b w : Nat) (hb : b < zNb a) (hw : w ≤ 7) : zM g l yX2_told wsX2_told { frames := 1, cells := 0, slots := 0, locals := 21 } [.ref (q 0), .int (nI b), .int (nI w)] (wB g q a (zG0 a) bs wb pd gw) (zPi (iZ (aTold a b w)) (wB g q a (zG0 a) bs wb pd gw)) 0 0 := by
  refine zM.of (cc := cX2_told) (nL := 3) (ret := (some .int)) (lv := [(0, .ref (q 0)), (1, .int (nI b)), (2, .int (nI w))]) (by decide) rfl (Nat.le_of_ble_eq_true rfl) rfl ?_
  intro E C0 hi
  have C : zC g E cX2_told RX2 wsX2_told 3 (some .int) := C0
  obtain ⟨hnf, hnd, hnb, hou, hrs, hbd⟩ := id ha
  have hxo := zFw_ok ha 0
  refine z_aload_n C dX2_told_0 0 rfl ?_
  refine z_iload_n C dX2_told_1 1 rfl ?_
  refine z_callV C (c_X2_requireBid l g q a bs wb pd gw ha b (by omega)) (cwV 1 C.ts gX2_told_X2_requireBid rfl rfl rfl (by decide +kernel) ⟨Nat.le_of_ble_eq_true rfl, Nat.le_of_ble_eq_true rfl⟩) wB_o rfl rfl rfl (Nat.le_of_ble_eq_true rfl) dX2_told_2 ⟨Nat.zero_le _, Nat.zero_le _⟩ (z_v ?_)
  refine z_iload_n C dX2_told_5 2 rfl ?_
  refine z_bipush C (nI 7) dX2_told_6 (by decide) ?_
  refine z_callS C (c_X2_requireWhat l g (wB g q a (zG0 a) bs wb pd gw) w 7 (by omega) (by omega)) (va_cwS 2 C.ts gX2_told_X2_requireWhat rfl rfl rfl (by decide +kernel) ⟨Nat.le_of_ble_eq_true rfl, Nat.le_of_ble_eq_true rfl⟩) rfl rfl (Nat.le_of_ble_eq_true rfl) dX2_told_8 ⟨Nat.zero_le _, Nat.zero_le _⟩ (z_v ?_)
  refine z_iload_n C dX2_told_11 2 rfl ?_
  rcases (show w = 0 ∨ w = 1 ∨ w = 2 ∨ w = 3 ∨ w = 4 ∨ w = 5 ∨ w = 6 ∨ w = 7 by omega) with rfl | rfl | rfl | rfl | rfl | rfl | rfl | rfl
  · skip
    refine z_tabIn C 56 dX2_told_12 (by decide) (by decide) (off := 44) (by decide) (by decide) ?_
    refine z_aload_n C dX2_told_56 0 rfl ?_
    refine z_get C inX2_told_X2 0 wB_o rfl 4 (by decide) (C.w 1 rfl) rfl dX2_told_57 ?_
    refine z_iload_n C dX2_told_60 1 rfl ?_
    refine z_ialdN C 3 wB_ow (by omega) (by decide) dX2_told_61 (v := nI (zOw a b)) rfl ?_
    have f_61b := (ha.ow (b := b) (by omega))
    exact z_iretP C dX2_told_62 rfl rfl
  · skip
    refine z_tabIn C 63 dX2_told_12 (by decide) (by decide) (off := 51) (by decide) (by decide) ?_
    refine z_aload_n C dX2_told_63 0 rfl ?_
    refine z_get C inX2_told_X2 0 wB_o rfl 5 (by decide) (C.w 2 rfl) rfl dX2_told_64 ?_
    refine z_iload_n C dX2_told_67 1 rfl ?_
    refine z_ialdN C 4 wB_bu (by omega) (by decide) dX2_told_68 (v := nI (zBu a b)) rfl ?_
    have f_68b := (ha.bu8 (b := b) (by omega))
    exact z_iretP C dX2_told_69 rfl rfl
  · skip
    refine z_tabIn C 70 dX2_told_12 (by decide) (by decide) (off := 58) (by decide) (by decide) ?_
    refine z_aload_n C dX2_told_70 0 rfl ?_
    refine z_get C inX2_told_X2 0 wB_o rfl 6 (by decide) (C.w 3 rfl) rfl dX2_told_71 ?_
    refine z_iload_n C dX2_told_74 1 rfl ?_
    refine z_ialdN C 5 wB_pr (by omega) (by decide) dX2_told_75 (v := nI (zPr a b)) rfl ?_
    have f_75b := (ha.pr (b := b) (by omega))
    exact z_iretP C dX2_told_76 rfl rfl
  · skip
    refine z_tabIn C 77 dX2_told_12 (by decide) (by decide) (off := 65) (by decide) (by decide) ?_
    refine z_aload_n C dX2_told_77 0 rfl ?_
    refine z_get C inX2_told_X2 0 wB_o rfl 8 (by decide) (C.w 4 rfl) rfl dX2_told_78 ?_
    refine z_iload_n C dX2_told_81 1 rfl ?_
    refine z_ialdN C 7 wB_wo (by omega) (by decide) dX2_told_82 (v := nI (zWo a b)) rfl ?_
    have f_82b := (ha.wo (b := b) (by omega))
    exact z_iretP C dX2_told_83 rfl rfl
  · skip
    refine z_tabIn C 84 dX2_told_12 (by decide) (by decide) (off := 72) (by decide) (by decide) ?_
    refine z_aload_n C dX2_told_84 0 rfl ?_
    refine z_get C inX2_told_X2 0 wB_o rfl 9 (by decide) (C.w 5 rfl) rfl dX2_told_85 ?_
    refine z_iload_n C dX2_told_88 1 rfl ?_
    refine z_zaldN C 8 wB_go (by omega) (by decide) dX2_told_89 (v := nI (zGo a b)) rfl ?_
    have f_89b := (ha.go (b := b) (by omega))
    refine z_callS C (c_X2_asNumber_N l g (wB g q a (zG0 a) bs wb pd gw) (zGo a b) (by omega)) (va_cwS 1 C.ts gX2_told_X2_asNumber rfl rfl rfl (by decide +kernel) ⟨Nat.le_of_ble_eq_true rfl, Nat.le_of_ble_eq_true rfl⟩) rfl rfl (Nat.le_of_ble_eq_true rfl) dX2_told_90 ⟨Nat.zero_le _, Nat.zero_le _⟩ (z_i ?_)
    exact z_iretP C dX2_told_93 rfl rfl
  · skip
    refine z_tabIn C 94 dX2_told_12 (by decide) (by decide) (off := 82) (by decide) (by decide) ?_
    refine z_aload_n C dX2_told_94 0 rfl ?_
    refine z_get C inX2_told_X2 0 wB_o rfl 7 (by decide) (C.w 6 rfl) rfl dX2_told_95 ?_
    refine z_iload_n C dX2_told_98 1 rfl ?_
    refine z_ialdN C 6 wB_G (by omega) (by decide) dX2_told_99 (v := iZ ((zG0 a) b)) rfl ?_
    have f_99b := (zG0_bnd ha b)
    exact z_iretP C dX2_told_100 (by show iZ (zG0 a b) = iZ (zGn a b); unfold zG0; rw [if_pos hb]) rfl
  · skip
    refine z_tabIn C 101 dX2_told_12 (by decide) (by decide) (off := 89) (by decide) (by decide) ?_
    refine z_aload_n C dX2_told_101 0 rfl ?_
    refine z_iload_n C dX2_told_102 1 rfl ?_
    refine z_callV C (c_X2_counts l g q a bs wb pd gw ha b (by omega)) (cwV 1 C.ts gX2_told_X2_counts rfl rfl rfl (by decide +kernel) ⟨Nat.le_of_ble_eq_true rfl, Nat.le_of_ble_eq_true rfl⟩) wB_o rfl rfl rfl (Nat.le_of_ble_eq_true rfl) dX2_told_103 ⟨Nat.zero_le _, Nat.zero_le _⟩ (z_i ?_)
    refine z_callS C (c_X2_asNumber l g (wB g q a (zG0 a) bs wb pd gw) (zCn a (zOu a) b)) (va_cwS 1 C.ts gX2_told_X2_asNumber rfl rfl rfl (by decide +kernel) ⟨Nat.le_of_ble_eq_true rfl, Nat.le_of_ble_eq_true rfl⟩) rfl rfl (Nat.le_of_ble_eq_true rfl) dX2_told_106 ⟨Nat.zero_le _, Nat.zero_le _⟩ (z_i ?_)
    exact z_iretP C dX2_told_109 (bI_Z _) rfl
  · skip
    refine z_tabOut C 110 dX2_told_12 (by decide) (by decide) ?_
    refine z_aload_n C dX2_told_110 0 rfl ?_
    refine z_get C inX2_told_X2 0 wB_o rfl 11 (by decide) (C.w 7 rfl) rfl dX2_told_111 ?_
    refine z_getN C inX2_told_X1 (12 + 0) (wB_sl (z := 0) (by decide)) rfl 0 (by decide) 2 rfl rfl dX2_told_114 ?_
    refine z_iload_n C dX2_told_117 1 rfl ?_
    refine z_callVN C (c_X0_has l g q a bs wb pd gw 0 (by decide) b (by omega)) ⟨va_cnB 1 C.ts ggX2_told_X0_has rfl rfl rfl (C.K.2.1 _ (List.mem_of_getElem? (i := 13) rfl)) (C.w 28 rfl) (by decide +kernel) ⟨Nat.le_of_ble_eq_true rfl, Nat.le_of_ble_eq_true rfl⟩, (C.w 27 rfl), (C.w 29 rfl)⟩ (wB_bs (z := 0) (by decide)) rfl rfl rfl (Nat.le_of_ble_eq_true rfl) dX2_told_118 ⟨Nat.zero_le _, Nat.zero_le _⟩ (z_i ?_)
    refine z_callS C (c_X2_asNumber l g (wB g q a (zG0 a) bs wb pd gw) ((bs 0).2.testBit b)) (va_cwS 1 C.ts gX2_told_X2_asNumber rfl rfl rfl (by decide +kernel) ⟨Nat.le_of_ble_eq_true rfl, Nat.le_of_ble_eq_true rfl⟩) rfl rfl (Nat.le_of_ble_eq_true rfl) dX2_told_121 ⟨Nat.zero_le _, Nat.zero_le _⟩ (z_i ?_)
    exact z_iretP C dX2_told_124 (by rw [hs.1]; exact bI_Z _) rfl
theorem inX2_about_X1 : ∀ w ∈ wsX10, w ∈ wsX2_about := fun w h => List.mem_cons_of_mem _ (List.mem_append_left _ (List.mem_append_right _ (h)))
theorem inX2_about_X2 : ∀ w ∈ wsX20, w ∈ wsX2_about := fun w h => List.mem_cons_of_mem _ (List.mem_append_left _ (List.mem_append_left _ (List.mem_append_right _ (h))))
set_option maxRecDepth 100000 in
set_option maxHeartbeats 4000000 in
theorem c_X2_about (l : Launch) (g : zG) (q : Nat → Nat) (a : zS) (bs : Nat → Int × Nat) (wb pd gw : Nat → Nat → Int) (ha : zOk a) (hs : zSet a bs wb pd gw 0 0) (d w : Nat) (hd : d < zNd a) (hw : w ≤ 5) : zM g l yX2_about wsX2_about { frames := 1, cells := 0, slots := 0, locals := 23 } [.ref (q 0), .int (nI d), .int (nI w)] (wB g q a (zG0 a) bs wb pd gw) (zPi (iZ (aAbout a d w)) (wB g q a (zG0 a) bs wb pd gw)) 0 0 := by
  refine zM.of (cc := cX2_about) (nL := 3) (ret := (some .int)) (lv := [(0, .ref (q 0)), (1, .int (nI d)), (2, .int (nI w))]) (by decide) rfl (Nat.le_of_ble_eq_true rfl) rfl ?_
  intro E C0 hi
  have C : zC g E cX2_about RX2 wsX2_about 3 (some .int) := C0
  obtain ⟨hnf, hnd, hnb, hou, hrs, hbd⟩ := id ha
  have hxo := zFw_ok ha 0
  have hd5 : d < 5 := by omega
  refine z_aload_n C dX2_about_0 0 rfl ?_
  refine z_iload_n C dX2_about_1 1 rfl ?_
  refine z_callV C (c_X2_requireBidder l g q a bs wb pd gw ha d (by omega)) (cwV 1 C.ts gX2_about_X2_requireBidder rfl rfl rfl (by decide +kernel) ⟨Nat.le_of_ble_eq_true rfl, Nat.le_of_ble_eq_true rfl⟩) wB_o rfl rfl rfl (Nat.le_of_ble_eq_true rfl) dX2_about_2 ⟨Nat.zero_le _, Nat.zero_le _⟩ (z_v ?_)
  refine z_iload_n C dX2_about_5 2 rfl ?_
  refine z_iconst C (nI 5) dX2_about_6 (by decide) ?_
  refine z_callS C (c_X2_requireWhat l g (wB g q a (zG0 a) bs wb pd gw) w 5 (by omega) (by omega)) (va_cwS 2 C.ts gX2_about_X2_requireWhat rfl rfl rfl (by decide +kernel) ⟨Nat.le_of_ble_eq_true rfl, Nat.le_of_ble_eq_true rfl⟩) rfl rfl (Nat.le_of_ble_eq_true rfl) dX2_about_7 ⟨Nat.zero_le _, Nat.zero_le _⟩ (z_v ?_)
  refine z_iload_n C dX2_about_10 2 rfl ?_
  rcases (show w = 0 ∨ w = 1 ∨ w = 2 ∨ w = 3 ∨ w = 4 ∨ w = 5 by omega) with rfl | rfl | rfl | rfl | rfl | rfl
  · skip
    refine z_tabIn C 44 dX2_about_11 (by decide) (by decide) (off := 33) (by decide) (by decide) ?_
    refine z_aload_n C dX2_about_44 0 rfl ?_
    refine z_get C inX2_about_X2 0 wB_o rfl 2 (by decide) (C.w 1 rfl) rfl dX2_about_45 ?_
    refine z_iload_n C dX2_about_48 1 rfl ?_
    refine z_zaldN C 2 wB_in (by omega) (by decide) dX2_about_49 (v := bI (zIn a d)) rfl ?_
    refine z_callS C (c_X2_asNumber l g (wB g q a (zG0 a) bs wb pd gw) (zIn a d)) (va_cwS 1 C.ts gX2_about_X2_asNumber rfl rfl rfl (by decide +kernel) ⟨Nat.le_of_ble_eq_true rfl, Nat.le_of_ble_eq_true rfl⟩) rfl rfl (Nat.le_of_ble_eq_true rfl) dX2_about_50 ⟨Nat.zero_le _, Nat.zero_le _⟩ (z_i ?_)
    exact z_iretP C dX2_about_53 (bI_Z _) rfl
  · skip
    refine z_tabIn C 54 dX2_about_11 (by decide) (by decide) (off := 43) (by decide) (by decide) ?_
    refine z_aload_n C dX2_about_54 0 rfl ?_
    refine z_iload_n C dX2_about_55 1 rfl ?_
    refine z_callV C (c_X2_bidsLeftOf l g q a bs wb pd gw ha d (by omega)) (cwV 1 C.ts gX2_about_X2_bidsLeftOf rfl rfl rfl (by decide +kernel) ⟨Nat.le_of_ble_eq_true rfl, Nat.le_of_ble_eq_true rfl⟩) wB_o rfl rfl rfl (Nat.le_of_ble_eq_true rfl) dX2_about_56 ⟨Nat.zero_le _, Nat.zero_le _⟩ (z_i ?_)
    exact z_iretP C dX2_about_59 rfl rfl
  · skip
    refine z_tabIn C 60 dX2_about_11 (by decide) (by decide) (off := 49) (by decide) (by decide) ?_
    refine z_aload_n C dX2_about_60 0 rfl ?_
    refine z_get C inX2_about_X2 0 wB_o rfl 11 (by decide) (C.w 2 rfl) rfl dX2_about_61 ?_
    refine z_getN C inX2_about_X1 (12 + 0) (wB_sl (z := 0) (by decide)) rfl 1 (by decide) 3 rfl rfl dX2_about_64 ?_
    refine z_iload_n C dX2_about_67 1 rfl ?_
    refine z_ialdN C (14 + 0) (wB_wb (z := 0) (by decide)) (by omega) (by decide) dX2_about_68 (v := iZ (wb 0 d)) rfl ?_
    exact z_iretP C dX2_about_69 (by rw [hs.wb hd5]; rfl) rfl
  · skip
    refine z_tabIn C 70 dX2_about_11 (by decide) (by decide) (off := 59) (by decide) (by decide) ?_
    refine z_aload_n C dX2_about_70 0 rfl ?_
    refine z_get C inX2_about_X2 0 wB_o rfl 11 (by decide) (C.w 2 rfl) rfl dX2_about_71 ?_
    refine z_getN C inX2_about_X1 (12 + 0) (wB_sl (z := 0) (by decide)) rfl 2 (by decide) 4 rfl rfl dX2_about_74 ?_
    refine z_iload_n C dX2_about_77 1 rfl ?_
    refine z_ialdN C (16 + 0) (wB_pd (z := 0) (by decide)) (by omega) (by decide) dX2_about_78 (v := iZ (pd 0 d)) rfl ?_
    exact z_iretP C dX2_about_79 (by rw [hs.pd hd5]; rfl) rfl
  · skip
    refine z_tabIn C 80 dX2_about_11 (by decide) (by decide) (off := 69) (by decide) (by decide) ?_
    refine z_aload_n C dX2_about_80 0 rfl ?_
    refine z_aload_n C dX2_about_81 0 rfl ?_
    refine z_get C inX2_about_X2 0 wB_o rfl 11 (by decide) (C.w 2 rfl) rfl dX2_about_82 ?_
    refine z_iload_n C dX2_about_85 1 rfl ?_
    refine z_callV C (c_X2_profit l g q a bs wb pd gw 0 ha (by decide) d (by omega) (hs.wor _ hd5)) (cwV 2 C.ts gX2_about_X2_profit rfl rfl rfl (by decide +kernel) ⟨Nat.le_of_ble_eq_true rfl, Nat.le_of_ble_eq_true rfl⟩) wB_o rfl rfl rfl (Nat.le_of_ble_eq_true rfl) dX2_about_86 ⟨Nat.zero_le _, Nat.zero_le _⟩ (z_i ?_)
    exact z_iretP C dX2_about_89 (by rw [hs.wb hd5, hs.pd hd5]; rfl) rfl
  · skip
    refine z_tabOut C 90 dX2_about_11 (by decide) (by decide) ?_
    refine z_aload_n C dX2_about_90 0 rfl ?_
    refine z_get C inX2_about_X2 0 wB_o rfl 11 (by decide) (C.w 2 rfl) rfl dX2_about_91 ?_
    refine z_getN C inX2_about_X1 (12 + 0) (wB_sl (z := 0) (by decide)) rfl 3 (by decide) 5 rfl rfl dX2_about_94 ?_
    refine z_iload_n C dX2_about_97 1 rfl ?_
    refine z_ialdN C (18 + 0) (wB_gw (z := 0) (by decide)) (by omega) (by decide) dX2_about_98 (v := iZ (gw 0 d)) rfl ?_
    exact z_iretP C dX2_about_99 (by rw [hs.gw hd5]; rfl) rfl
theorem inX2_land_X2 : ∀ w ∈ wsX20, w ∈ wsX2_land := fun w h => List.mem_cons_of_mem _ (List.mem_append_left _ (List.mem_append_left _ (List.mem_append_left _ (List.mem_append_right _ (h)))))
set_option maxRecDepth 100000 in
set_option maxHeartbeats 4000000 in
theorem c_X2_land (l : Launch) (g : zG) (q : Nat → Nat) (a : zS) (bs : Nat → Int × Nat) (wb pd gw : Nat → Nat → Int) (ha : zOk a) (hs : zSet a bs wb pd gw 0 0) (f w : Nat) (hf : f < zNf a) (hw : w ≤ 2) : zM g l yX2_land wsX2_land { frames := 2, cells := 0, slots := 0, locals := 44 } [.ref (q 0), .int (nI f), .int (nI w)] (wB g q a (zG0 a) bs wb pd gw) (zPi (iZ (aLand a f w)) (wB g q a (zG0 a) bs wb pd gw)) 0 0 := by
  refine zM.of (cc := cX2_land) (nL := 3) (ret := (some .int)) (lv := [(0, .ref (q 0)), (1, .int (nI f)), (2, .int (nI w))]) (by decide) rfl (Nat.le_of_ble_eq_true rfl) rfl ?_
  intro E C0 hi
  have C : zC g E cX2_land RX2 wsX2_land 3 (some .int) := C0
  obtain ⟨hnf, hnd, hnb, hou, hrs, hbd⟩ := id ha
  have hxo := zFw_ok ha 0
  refine z_aload_n C dX2_land_0 0 rfl ?_
  refine z_iload_n C dX2_land_1 1 rfl ?_
  refine z_callV C (c_X2_requireField l g q a bs wb pd gw ha f (by omega)) (cwV 1 C.ts gX2_land_X2_requireField rfl rfl rfl (by decide +kernel) ⟨Nat.le_of_ble_eq_true rfl, Nat.le_of_ble_eq_true rfl⟩) wB_o rfl rfl rfl (Nat.le_of_ble_eq_true rfl) dX2_land_2 ⟨Nat.zero_le _, Nat.zero_le _⟩ (z_v ?_)
  refine z_iload_n C dX2_land_5 2 rfl ?_
  refine z_iconst C (nI 2) dX2_land_6 (by decide) ?_
  refine z_callS C (c_X2_requireWhat l g (wB g q a (zG0 a) bs wb pd gw) w 2 (by omega) (by omega)) (va_cwS 2 C.ts gX2_land_X2_requireWhat rfl rfl rfl (by decide +kernel) ⟨Nat.le_of_ble_eq_true rfl, Nat.le_of_ble_eq_true rfl⟩) rfl rfl (Nat.le_of_ble_eq_true rfl) dX2_land_7 ⟨Nat.zero_le _, Nat.zero_le _⟩ (z_v ?_)
  refine z_iload_n C dX2_land_10 2 rfl ?_
  rcases (show w = 0 ∨ w = 1 ∨ w = 2 by omega) with rfl | rfl | rfl
  · skip
    refine z_lookup C 36 dX2_land_11 (by decide) (off := 25) (by decide) (by decide) ?_
    refine z_aload_n C dX2_land_36 0 rfl ?_
    refine z_get C inX2_land_X2 0 wB_o rfl 0 (by decide) (C.w 1 rfl) rfl dX2_land_37 ?_
    refine z_iload_n C dX2_land_40 1 rfl ?_
    refine z_ialdN C 1 wB_rs (by omega) (by decide) dX2_land_41 (v := nI (zRs a f)) rfl ?_
    have f_41b := (ha.rs (f := f) (by omega))
    exact z_iretP C dX2_land_42 rfl rfl
  · skip
    refine z_lookup C 43 dX2_land_11 (by decide) (off := 32) (by decide) (by decide) ?_
    refine z_aload_n C dX2_land_43 0 rfl ?_
    refine z_aload_n C dX2_land_44 0 rfl ?_
    refine z_iload_n C dX2_land_45 1 rfl ?_
    refine z_callV C (c_X2_winnerOfField l g q a bs wb pd gw ha f (by omega)) (cwV 1 C.ts gX2_land_X2_winnerOfField rfl rfl rfl (by decide +kernel) ⟨Nat.le_of_ble_eq_true rfl, Nat.le_of_ble_eq_true rfl⟩) wB_o rfl rfl rfl (Nat.le_of_ble_eq_true rfl) dX2_land_46 ⟨Nat.zero_le _, Nat.zero_le _⟩ (z_i ?_)
    have hwf : zFst (fun b => (bs 0).2.testBit b && (zBu a b).testBit f) 0 (zNb a) = aWf a f := by unfold aWf; rw [hs.1]
    rcases zFst_or (fun b => (zFw a 0).2.testBit b && (zBu a b).testBit f) (zNb a) 0 with hwn | ⟨c, hc, hce, -⟩
    · skip
      have hwn : aWf a f = -1 := hwn
      refine zW.top (y := iZ (-1)) (by rw [hwf, hwn]) ?_
      refine z_callV C (c_X2_ownerOf_no l g q a bs wb pd gw ha) (cwV 1 C.ts gX2_land_X2_ownerOf rfl rfl rfl (by decide +kernel) ⟨Nat.le_of_ble_eq_true rfl, Nat.le_of_ble_eq_true rfl⟩) wB_o rfl rfl rfl (Nat.le_of_ble_eq_true rfl) dX2_land_49 ⟨Nat.zero_le _, Nat.zero_le _⟩ (z_i ?_)
      exact z_iretP C dX2_land_52 (by unfold aLand; rw [hwn]; rfl) rfl
    · skip
      rw [Nat.zero_add] at hc
      have hwn : aWf a f = (c : Int) := hce
      refine zW.top (y := nI c) (by rw [hwf, hwn]; rfl) ?_
      refine z_callV C (c_X2_ownerOf l g q a bs wb pd gw ha c hc) (cwV 1 C.ts gX2_land_X2_ownerOf rfl rfl rfl (by decide +kernel) ⟨Nat.le_of_ble_eq_true rfl, Nat.le_of_ble_eq_true rfl⟩) wB_o rfl rfl rfl (Nat.le_of_ble_eq_true rfl) dX2_land_49 ⟨Nat.zero_le _, Nat.zero_le _⟩ (z_i ?_)
      exact z_iretP C dX2_land_52 (by unfold aLand; rw [hwn]; rw [if_neg (by omega)]; rfl) rfl
  · skip
    refine z_lookup C 53 dX2_land_11 (by decide) (off := 42) (by decide) (by decide) ?_
    refine z_aload_n C dX2_land_53 0 rfl ?_
    refine z_iload_n C dX2_land_54 1 rfl ?_
    refine z_callV C (c_X2_countingBidsWith l g q a bs wb pd gw ha f (by omega)) (cwV 1 C.ts gX2_land_X2_countingBidsWith rfl rfl rfl (by decide +kernel) ⟨Nat.le_of_ble_eq_true rfl, Nat.le_of_ble_eq_true rfl⟩) wB_o rfl rfl rfl (Nat.le_of_ble_eq_true rfl) dX2_land_55 ⟨Nat.zero_le _, Nat.zero_le _⟩ (z_i ?_)
    exact z_iretP C dX2_land_58 rfl rfl
theorem inX2_count_X0 : ∀ w ∈ wsX00, w ∈ wsX2_count := fun w h => List.mem_cons_of_mem _ (List.mem_append_left _ (List.mem_append_right _ (h)))
theorem inX2_count_X1 : ∀ w ∈ wsX10, w ∈ wsX2_count := fun w h => List.mem_cons_of_mem _ (List.mem_append_left _ (List.mem_append_left _ (List.mem_append_right _ (h))))
theorem inX2_count_X2 : ∀ w ∈ wsX20, w ∈ wsX2_count := fun w h => List.mem_cons_of_mem _ (List.mem_append_left _ (List.mem_append_left _ (List.mem_append_left _ (List.mem_append_right _ (h)))))
set_option maxRecDepth 100000 in
set_option maxHeartbeats 4000000 in
theorem c_X2_count (l : Launch) (g : zG) (q : Nat → Nat) (a : zS) (bs : Nat → Int × Nat) (wb pd gw : Nat → Nat → Int) (ha : zOk a) (hs : zSet a bs wb pd gw 0 0) (w : Nat) (hw : w ≤ 8) : zM g l yX2_count wsX2_count { frames := 2, cells := 0, slots := 0, locals := 45 } [.ref (q 0), .int (nI w)] (wB g q a (zG0 a) bs wb pd gw) (zPi (iZ (aCount a w)) (wB g q a (zG0 a) bs wb pd gw)) 0 0 := by
  refine zM.of (cc := cX2_count) (nL := 2) (ret := (some .int)) (lv := [(0, .ref (q 0)), (1, .int (nI w))]) (by decide) rfl (Nat.le_of_ble_eq_true rfl) rfl ?_
  intro E C0 hi
  have C : zC g E cX2_count RX2 wsX2_count 2 (some .int) := C0
  obtain ⟨hnf, hnd, hnb, hou, hrs, hbd⟩ := id ha
  have hxo := zFw_ok ha 0
  refine z_iload_n C dX2_count_0 1 rfl ?_
  refine z_bipush C (nI 8) dX2_count_1 (by decide) ?_
  refine z_callS C (c_X2_requireWhat l g (wB g q a (zG0 a) bs wb pd gw) w 8 (by omega) (by omega)) (va_cwS 2 C.ts gX2_count_X2_requireWhat rfl rfl rfl (by decide +kernel) ⟨Nat.le_of_ble_eq_true rfl, Nat.le_of_ble_eq_true rfl⟩) rfl rfl (Nat.le_of_ble_eq_true rfl) dX2_count_3 ⟨Nat.zero_le _, Nat.zero_le _⟩ (z_v ?_)
  refine z_iload_n C dX2_count_6 1 rfl ?_
  rcases (show w = 0 ∨ w = 1 ∨ w = 2 ∨ w = 3 ∨ w = 4 ∨ w = 5 ∨ w = 6 ∨ w = 7 ∨ w = 8 by omega) with rfl | rfl | rfl | rfl | rfl | rfl | rfl | rfl | rfl
  · skip
    refine z_tabIn C 52 dX2_count_7 (by decide) (by decide) (off := 45) (by decide) (by decide) ?_
    refine z_aload_n C dX2_count_52 0 rfl ?_
    refine z_get C inX2_count_X2 0 wB_o rfl 1 (by decide) (C.w 1 rfl) rfl dX2_count_53 ?_
    exact z_iretP C dX2_count_56 rfl rfl
  · skip
    refine z_tabIn C 57 dX2_count_7 (by decide) (by decide) (off := 50) (by decide) (by decide) ?_
    refine z_aload_n C dX2_count_57 0 rfl ?_
    refine z_get C inX2_count_X2 0 wB_o rfl 3 (by decide) (C.w 2 rfl) rfl dX2_count_58 ?_
    exact z_iretP C dX2_count_61 rfl rfl
  · skip
    refine z_tabIn C 62 dX2_count_7 (by decide) (by decide) (off := 55) (by decide) (by decide) ?_
    refine z_aload_n C dX2_count_62 0 rfl ?_
    refine z_get C inX2_count_X2 0 wB_o rfl 10 (by decide) (C.w 3 rfl) rfl dX2_count_63 ?_
    exact z_iretP C dX2_count_66 rfl rfl
  · skip
    refine z_tabIn C 67 dX2_count_7 (by decide) (by decide) (off := 60) (by decide) (by decide) ?_
    refine z_aload_n C dX2_count_67 0 rfl ?_
    refine z_get C inX2_count_X2 0 wB_o rfl 11 (by decide) (C.w 4 rfl) rfl dX2_count_68 ?_
    refine z_getN C inX2_count_X1 (12 + 0) (wB_sl (z := 0) (by decide)) rfl 0 (by decide) 2 rfl rfl dX2_count_71 ?_
    refine z_getN C inX2_count_X0 (9 + 0) (wB_bs (z := 0) (by decide)) rfl 0 (by decide) 0 rfl rfl dX2_count_74 ?_
    exact z_iretP C dX2_count_77 (by rw [hs.1]; rfl) rfl
  · skip
    refine z_tabIn C 78 dX2_count_7 (by decide) (by decide) (off := 71) (by decide) (by decide) ?_
    refine z_aload_n C dX2_count_78 0 rfl ?_
    refine z_get C inX2_count_X2 0 wB_o rfl 11 (by decide) (C.w 4 rfl) rfl dX2_count_79 ?_
    refine z_getN C inX2_count_X1 (12 + 0) (wB_sl (z := 0) (by decide)) rfl 0 (by decide) 2 rfl rfl dX2_count_82 ?_
    refine z_getN C inX2_count_X0 (9 + 0) (wB_bs (z := 0) (by decide)) rfl 1 (by decide) 1 rfl rfl dX2_count_85 ?_
    refine z_callS C (c_J6_bitCount_0f7a4 l g (wB g q a (zG0 a) bs wb pd gw) ((bs 0).2) (by rw [hs.1]; exact hxo.2.2)) (va_cwS 1 C.ts gX2_count_J6_bitCount_0f7a4 rfl rfl rfl (by decide +kernel) ⟨Nat.le_of_ble_eq_true rfl, Nat.le_of_ble_eq_true rfl⟩) rfl rfl (Nat.le_of_ble_eq_true rfl) dX2_count_88 ⟨Nat.zero_le _, Nat.zero_le _⟩ (z_i ?_)
    exact z_iretP C dX2_count_91 (by rw [hs.1]; rfl) rfl
  · skip
    refine z_tabIn C 92 dX2_count_7 (by decide) (by decide) (off := 85) (by decide) (by decide) ?_
    refine z_aload_n C dX2_count_92 0 rfl ?_
    refine z_callV C (c_X2_soldFields l g q a bs wb pd gw ha) (cwV 0 C.ts gX2_count_X2_soldFields rfl rfl rfl (by decide +kernel) ⟨Nat.le_of_ble_eq_true rfl, Nat.le_of_ble_eq_true rfl⟩) wB_o rfl rfl rfl (Nat.le_of_ble_eq_true rfl) dX2_count_93 ⟨Nat.zero_le _, Nat.zero_le _⟩ (z_i ?_)
    refine z_callS C (c_J6_bitCount_0f7a4 l g (wB g q a (zG0 a) bs wb pd gw) (zOrs (fun b => if (bs 0).2.testBit b = true then zBu a b else 0) (zNb a)) (by have := aSold_lt ha; rw [hs.1]; exact Nat.lt_trans this (by decide))) (va_cwS 1 C.ts gX2_count_J6_bitCount_0f7a4 rfl rfl rfl (by decide +kernel) ⟨Nat.le_of_ble_eq_true rfl, Nat.le_of_ble_eq_true rfl⟩) rfl rfl (Nat.le_of_ble_eq_true rfl) dX2_count_96 ⟨Nat.zero_le _, Nat.zero_le _⟩ (z_i ?_)
    exact z_iretP C dX2_count_99 (by rw [hs.1]; rfl) rfl
  · skip
    refine z_tabIn C 100 dX2_count_7 (by decide) (by decide) (off := 93) (by decide) (by decide) ?_
    refine z_aload_n C dX2_count_100 0 rfl ?_
    refine z_get C inX2_count_X2 0 wB_o rfl 11 (by decide) (C.w 4 rfl) rfl dX2_count_101 ?_
    refine z_callVN C (c_X1_totalPaid l g q a bs wb pd gw 0 (by decide)) ⟨va_cnB 0 C.ts ggX2_count_X1_totalPaid rfl rfl rfl (C.K.2.1 _ (List.mem_of_getElem? (i := 14) rfl)) (C.w 29 rfl) (by decide +kernel) ⟨Nat.le_of_ble_eq_true rfl, Nat.le_of_ble_eq_true rfl⟩, (C.w 28 rfl), (C.w 30 rfl)⟩ (wB_sl (z := 0) (by decide)) rfl rfl rfl (Nat.le_of_ble_eq_true rfl) dX2_count_104 ⟨Nat.zero_le _, Nat.zero_le _⟩ (z_i ?_)
    exact z_iretP C dX2_count_107 (congrArg iZ (zSi_cong 5 (fun d hd => hs.pd hd))) rfl
  · skip
    refine z_tabIn C 108 dX2_count_7 (by decide) (by decide) (off := 101) (by decide) (by decide) ?_
    refine z_aload_n C dX2_count_108 0 rfl ?_
    refine z_callV C (c_X2_totalProfit l g q a bs wb pd gw ha hs.wor) (cwV 0 C.ts gX2_count_X2_totalProfit rfl rfl rfl (by decide +kernel) ⟨Nat.le_of_ble_eq_true rfl, Nat.le_of_ble_eq_true rfl⟩) wB_o rfl rfl rfl (Nat.le_of_ble_eq_true rfl) dX2_count_109 ⟨Nat.zero_le _, Nat.zero_le _⟩ (z_i ?_)
    exact z_iretP C dX2_count_112 (congrArg iZ (zSi_cong _ (fun d hd => by show zPfv a (wb 0 d) (pd 0 d) = aProf a d; rw [hs.wb (by omega), hs.pd (by omega)]; rfl))) rfl
  · skip
    refine z_tabOut C 113 dX2_count_7 (by decide) (by decide) ?_
    refine z_aload_n C dX2_count_113 0 rfl ?_
    refine z_callV C (c_X2_winningPrices l g q a bs wb pd gw ha) (cwV 0 C.ts gX2_count_X2_winningPrices rfl rfl rfl (by decide +kernel) ⟨Nat.le_of_ble_eq_true rfl, Nat.le_of_ble_eq_true rfl⟩) wB_o rfl rfl rfl (Nat.le_of_ble_eq_true rfl) dX2_count_114 ⟨Nat.zero_le _, Nat.zero_le _⟩ (z_i ?_)
    exact z_iretP C dX2_count_117 (by rw [hs.1]; rfl) rfl
theorem inX2_alone_X2 : ∀ w ∈ wsX20, w ∈ wsX2_alone := fun w h => List.mem_cons_of_mem _ (List.mem_append_left _ (List.mem_append_right _ (h)))
set_option maxRecDepth 100000 in
set_option maxHeartbeats 4000000 in
theorem c_X2_alone (l : Launch) (g : zG) (q : Nat → Nat) (a : zS) (bs : Nat → Int × Nat) (wb pd gw : Nat → Nat → Int) (ha : zOk a) (hs : zSet a bs wb pd gw 0 0) (f w : Nat) (hf : f < zNf a) (hw : w ≤ 2) : zM g l yX2_alone wsX2_alone { frames := 3, cells := 0, slots := 0, locals := 69 } [.ref (q 0), .int (nI f), .int (nI w)] (wB g q a (zG0 a) bs wb pd gw) (zPi (iZ (aAlone a f w)) (wB g q a (zG0 a) bs wb pd gw)) 0 0 := by
  refine zM.of (cc := cX2_alone) (nL := 4) (ret := (some .int)) (lv := [(0, .ref (q 0)), (1, .int (nI f)), (2, .int (nI w))]) (by decide) rfl (Nat.le_of_ble_eq_true rfl) rfl ?_
  intro E C0 hi
  have C : zC g E cX2_alone RX2 wsX2_alone 4 (some .int) := C0
  obtain ⟨hnf, hnd, hnb, hou, hrs, hbd⟩ := id ha
  have hxo := zFw_ok ha 0
  refine z_aload_n C dX2_alone_0 0 rfl ?_
  refine z_iload_n C dX2_alone_1 1 rfl ?_
  refine z_callV C (c_X2_requireField l g q a bs wb pd gw ha f (by omega)) (cwV 1 C.ts gX2_alone_X2_requireField rfl rfl rfl (by decide +kernel) ⟨Nat.le_of_ble_eq_true rfl, Nat.le_of_ble_eq_true rfl⟩) wB_o rfl rfl rfl (Nat.le_of_ble_eq_true rfl) dX2_alone_2 ⟨Nat.zero_le _, Nat.zero_le _⟩ (z_v ?_)
  refine z_iload_n C dX2_alone_5 2 rfl ?_
  refine z_iconst C (nI 2) dX2_alone_6 (by decide) ?_
  refine z_callS C (c_X2_requireWhat l g (wB g q a (zG0 a) bs wb pd gw) w 2 (by omega) (by omega)) (va_cwS 2 C.ts gX2_alone_X2_requireWhat rfl rfl rfl (by decide +kernel) ⟨Nat.le_of_ble_eq_true rfl, Nat.le_of_ble_eq_true rfl⟩) rfl rfl (Nat.le_of_ble_eq_true rfl) dX2_alone_7 ⟨Nat.zero_le _, Nat.zero_le _⟩ (z_v ?_)
  refine z_aload_n C dX2_alone_10 0 rfl ?_
  refine z_iload_n C dX2_alone_11 1 rfl ?_
  refine z_iconst C (iZ (-1)) dX2_alone_12 (by decide) ?_
  refine z_callV C (c_X2_highestAlone l g q a bs wb pd gw ha f (by omega) (-1) (by omega)) (cwV 2 C.ts gX2_alone_X2_highestAlone rfl rfl rfl (by decide +kernel) ⟨Nat.le_of_ble_eq_true rfl, Nat.le_of_ble_eq_true rfl⟩) wB_o rfl rfl rfl (Nat.le_of_ble_eq_true rfl) dX2_alone_13 ⟨Nat.zero_le _, Nat.zero_le _⟩ (z_i ?_)
  rcases zHi_or a (zCo a f (-1)) (zNb a) with hwn | ⟨c, hc, hce, -⟩
  · skip
    have hwn : aHi a f (-1) = -1 := hwn
    refine zW.top (y := iZ (-1)) (congrArg iZ hwn) ?_
    refine z_istore_n C dX2_alone_16 (by decide) [(3, .int (iZ (-1))), (0, .ref (q 0)), (1, .int (nI f)), (2, .int (nI w))] rfl ?_
    refine z_iload_n C dX2_alone_17 0 rfl ?_
    refine z_iconst C (iZ (-1)) dX2_alone_18 (by decide) ?_
    refine z_icmp_ne C 24 dX2_alone_19 (by decide) (zeq_ZZ (x := (-1)) (y := (-1)) (by unfold zB31; omega) (by unfold zB31; omega)) (fun h9 => absurd (by decide) h9) (fun c_19 => ?_)
    refine z_iconst C (iZ (-1)) dX2_alone_22 (by decide) ?_
    exact z_iretP C dX2_alone_23 (by unfold aAlone; rw [if_pos hwn]) rfl
  · skip
    have hwn : aHi a f (-1) = (c : Int) := hce
    refine zW.top (y := nI c) (congrArg iZ hwn) ?_
    refine z_istore_n C dX2_alone_16 (by decide) [(3, .int (nI c)), (0, .ref (q 0)), (1, .int (nI f)), (2, .int (nI w))] rfl ?_
    refine z_iload_n C dX2_alone_17 0 rfl ?_
    refine z_iconst C (iZ (-1)) dX2_alone_18 (by decide) ?_
    refine z_icmp_ne C 24 dX2_alone_19 (by decide) (zeq_ZZ (x := ((c : Nat) : Int)) (y := (-1)) (by unfold zB31; omega) (by unfold zB31; omega)) (fun c_19 => ?_) (fun h9 => absurd h9 (by omega))
    refine z_iload_n C dX2_alone_24 3 rfl ?_
    rcases (show w = 0 ∨ w = 1 ∨ w = 2 by omega) with rfl | rfl | rfl
    · skip
      refine z_lookup C 52 dX2_alone_25 (by decide) (off := 27) (by decide) (by decide) ?_
      refine z_iload_n C dX2_alone_52 0 rfl ?_
      exact z_iretP C dX2_alone_53 (by unfold aAlone; rw [hwn, if_neg (by omega)]; rfl) rfl
    · skip
      refine z_lookup C 54 dX2_alone_25 (by decide) (off := 29) (by decide) (by decide) ?_
      refine z_aload_n C dX2_alone_54 1 rfl ?_
      refine z_get C inX2_alone_X2 0 wB_o rfl 4 (by decide) (C.w 1 rfl) rfl dX2_alone_55 ?_
      refine z_iload_n C dX2_alone_58 0 rfl ?_
      refine z_ialdN C 3 wB_ow (by omega) (by decide) dX2_alone_59 (v := nI (zOw a c)) rfl ?_
      have f_59b := (ha.ow (b := c) (by omega))
      exact z_iretP C dX2_alone_60 (by unfold aAlone; rw [hwn, if_neg (by omega)]; rfl) rfl
    · skip
      refine z_lookup C 61 dX2_alone_25 (by decide) (off := 36) (by decide) (by decide) ?_
      rcases zHi_or a (zCo a f (zOw a c : Int)) (zNb a) with hsn | ⟨c2, hc2, hsn, -⟩
      · skip
        refine z_aload_n C dX2_alone_61 1 rfl ?_
        refine z_iload_n C dX2_alone_62 2 rfl ?_
        refine z_iload_n C dX2_alone_63 0 rfl ?_
        refine z_callV C (c_X2_secondPrice_no l g q a bs wb pd gw ha f (by omega) c (by omega) hsn) (cwV 2 C.ts gX2_alone_X2_secondPrice rfl rfl rfl (by decide +kernel) ⟨Nat.le_of_ble_eq_true rfl, Nat.le_of_ble_eq_true rfl⟩) wB_o rfl rfl rfl (Nat.le_of_ble_eq_true rfl) dX2_alone_64 ⟨Nat.zero_le _, Nat.zero_le _⟩ (z_i ?_)
        exact z_iretP C dX2_alone_67 (by unfold aAlone; rw [hwn, if_neg (by omega)]; show _ = iZ (if aHi a f (zOw a ((c : Int)).toNat : Int) = -1 then _ else _); rw [if_pos (show aHi a f (zOw a ((c : Int)).toNat : Int) = -1 from hsn)]; rfl) rfl
      · skip
        refine z_aload_n C dX2_alone_61 1 rfl ?_
        refine z_iload_n C dX2_alone_62 2 rfl ?_
        refine z_iload_n C dX2_alone_63 0 rfl ?_
        refine z_callV C (c_X2_secondPrice_b l g q a bs wb pd gw ha f (by omega) c (by omega) c2 (by omega) hsn) (cwV 2 C.ts gX2_alone_X2_secondPrice rfl rfl rfl (by decide +kernel) ⟨Nat.le_of_ble_eq_true rfl, Nat.le_of_ble_eq_true rfl⟩) wB_o rfl rfl rfl (Nat.le_of_ble_eq_true rfl) dX2_alone_64 ⟨Nat.zero_le _, Nat.zero_le _⟩ (z_i ?_)
        exact z_iretP C dX2_alone_67 (by unfold aAlone; rw [hwn, if_neg (by omega)]; show _ = iZ (if aHi a f (zOw a ((c : Int)).toNat : Int) = -1 then _ else (zPr a (aHi a f (zOw a ((c : Int)).toNat : Int)).toNat : Int)); rw [show aHi a f (zOw a ((c : Int)).toNat : Int) = (c2 : Int) from hsn, if_neg (by omega)]; rfl) rfl
end
section
def zDg (f : Nat → Int) (d : Int64) : Nat → Int64
  | 0 => d
  | n + 1 => zDg f d n * 31 + (iZ (f n)).toInt64
def aDg2 (a : zS) : Nat → Int64
  | 0 => zDg (aCount a) 1619 9
  | n + 1 => zDg (aAlone a n) (zDg (aLand a n) (aDg2 a n) 3) 3
def aDg3 (a : zS) : Nat → Int64
  | 0 => aDg2 a (zNf a)
  | n + 1 => zDg (aAbout a n) (aDg3 a n) 6
def aDg4 (a : zS) : Nat → Int64
  | 0 => aDg3 a (zNd a)
  | n + 1 => zDg (aTold a n) (aDg4 a n) 8
def aDigest (a : zS) : Int64 := aDg4 a (zNb a)
def aWould (a : zS) (b x w : Nat) : Int := match w with
  | 0 => if (zFw (zSetPr a b x) 0).2.testBit b = true then 1 else 0
  | 1 => aPaid (zSetPr a b x) (zOw a b)
  | 2 => aProf (zSetPr a b x) (zOw a b)
  | _ => (zFw (zSetPr a b x) 0).1
/-- whether a bid would win with the price x -/
def aWins (a : zS) (b x : Nat) : Bool := (zFw (zSetPr a b x) 0).2.testBit b
def zLs (a : zS) (b : Nat) : Nat → Int → Int
  | 0, h => h
  | n + 1, h => zLs a b n (if h + ((2 ^ n : Nat) : Int) ≤ 999 ∧ aWins a b (h + ((2 ^ n : Nat) : Int)).toNat = false then h + ((2 ^ n : Nat) : Int) else h)
theorem zLs_s (a : zS) (b n : Nat) (h : Int) : zLs a b (n + 1) h = zLs a b n (if h + ((2 ^ n : Nat) : Int) ≤ 999 ∧ aWins a b (h + ((2 ^ n : Nat) : Int)).toNat = false then h + ((2 ^ n : Nat) : Int) else h) := rfl
def aLeast (a : zS) (b : Nat) : Int := if zLs a b 10 (-1) < 999 then zLs a b 10 (-1) + 1 else -1
/-- what all pay without the bidder d -/
def aPs (a : zS) (d : Nat) : Int := zSi (fun e => zLp a (2 ^ d) (zNb a) e) 5
def zRv (a : zS) : Nat → Int × Int
  | 0 => (-1, -1)
  | n + 1 => if (zRv a n).2 < aPs a n then ((n : Int), aPs a n) else zRv a n
def aMean (a : zS) : UInt64 := if zPop (zFw a 0).2 12 = 0 then 0 else FP.ddiv (FP.i2d (iZ (zSi (aPaid a) 5))) (FP.i2d (nI (zPop (zFw a 0).2 12)))
theorem zSet_keep {a : zS} {bs : Nat → Int × Nat} {wb pd gw : Nat → Nat → Int} {bs' : Nat → Int × Nat} {wb' pd' gw' : Nat → Nat → Int} (h : zSet a bs wb pd gw 0 0) (hk : zSame 1 bs wb pd gw bs' wb' pd' gw') : zSet a bs' wb' pd' gw' 0 0 := by
  obtain ⟨h1, h2, h3, h4⟩ := hk 0 (by decide) (by decide)
  unfold zSet
  rw [h1, h2, h3, h4]
  exact h
theorem zSetPr_back (a : zS) (b x : Nat) : zSetPr (zSetPr a b x) b (zPr a b) = a := by
  show zMk _ _ _ _ _ _ _ (va_up (va_up (zPr a) b x) b (zPr a b)) _ _ = _
  rw [bx_uu, zup_id]
  rfl
theorem zSetPr_2 (a : zS) (b x y : Nat) : zSetPr (zSetPr a b x) b y = zSetPr a b y := by
  show zMk _ _ _ _ _ _ _ (va_up (va_up (zPr a) b x) b y) _ _ = _
  rw [bx_uu]
  rfl
theorem zGw_bnd {a : zS} (ha : zOk a) (ab d : Nat) : 0 ≤ zGw a ab d ∧ zGw a ab d ≤ 11988 := by
  unfold zGw
  split
  · have h := zFw_ok ha (ab ||| 2 ^ d)
    exact ⟨h.1, h.2.1⟩
  · omega
theorem zLp_bnd {a : zS} (ha : zOk a) (ab e : Nat) : ∀ n, n ≤ zNb a → -20000 ≤ zLp a ab n e ∧ zLp a ab n e ≤ 20000
  | 0, _ => by unfold zLp; omega
  | n + 1, h => by
    unfold zLp
    split
    · have h1 := zRes_le ha (zBu a n)
      have h2 := zGw_bnd ha ab e
      have h3 := zFw_ok ha ab
      have h4 := h3.1
      have h5 := h3.2.1
      have h6 := zGn_bnd ha (b := n) (by omega)
      omega
    · exact zLp_bnd ha ab e n (by omega)
theorem zSi_bnd {f : Nat → Int} {c : Int} (h : ∀ i, -c ≤ f i ∧ f i ≤ c) (hc : 0 ≤ c) : ∀ n : Nat, -(c * n) ≤ zSi f n ∧ zSi f n ≤ c * n
  | 0 => by simp [zSi]
  | n + 1 => by
    have h1 := zSi_bnd h hc n
    have h2 := h n
    unfold zSi
    have h3 : c * ((n + 1 : Nat) : Int) = c * n + c := by rw [Int.natCast_add, Int.mul_add]; simp
    omega
theorem aPs_bnd {a : zS} (ha : zOk a) (d : Nat) : -100000 ≤ aPs a d ∧ aPs a d ≤ 100000 := by
  have h := zSi_bnd (f := fun e => zLp a (2 ^ d) (zNb a) e) (c := 20000) (fun e => zLp_bnd ha (2 ^ d) e _ (Nat.le_refl _)) (by decide) 5
  unfold aPs
  omega
theorem zRv_bnd {a : zS} (ha : zOk a) : ∀ n, -100000 ≤ (zRv a n).2 ∧ (zRv a n).2 ≤ 100000
  | 0 => by unfold zRv; omega
  | n + 1 => by
    unfold zRv
    split
    · exact aPs_bnd ha n
    · exact zRv_bnd ha n
theorem inX2_mean_X0 : ∀ w ∈ wsX00, w ∈ wsX2_mean := fun w h => List.mem_cons_of_mem _ (List.mem_append_right _ (h))
theorem inX2_mean_X1 : ∀ w ∈ wsX10, w ∈ wsX2_mean := fun w h => List.mem_cons_of_mem _ (List.mem_append_left _ (List.mem_append_right _ (h)))
theorem inX2_mean_X2 : ∀ w ∈ wsX20, w ∈ wsX2_mean := fun w h => List.mem_cons_of_mem _ (List.mem_append_left _ (List.mem_append_left _ (List.mem_append_right _ (h))))
set_option maxRecDepth 100000 in
set_option maxHeartbeats 4000000 in
theorem c_X2_mean (l : Launch) (g : zG) (q : Nat → Nat) (a : zS) (bs : Nat → Int × Nat) (wb pd gw : Nat → Nat → Int) (ha : zOk a) (hs : zSet a bs wb pd gw 0 0)  : zM g l yX2_mean wsX2_mean { frames := 1, cells := 0, slots := 0, locals := 25 } [.ref (q 0)] (wB g q a (zG0 a) bs wb pd gw) (zPd (aMean a) (wB g q a (zG0 a) bs wb pd gw)) 0 0 := by
  refine zM.of (cc := cX2_mean) (nL := 2) (ret := (some .double)) (lv := [(0, .ref (q 0))]) (by decide) rfl (Nat.le_of_ble_eq_true rfl) rfl ?_
  intro E C0 hi
  have C : zC g E cX2_mean RX2 wsX2_mean 2 (some .double) := C0
  obtain ⟨hnf, hnd, hnb, hou, hrs, hbd⟩ := id ha
  have hxo := zFw_ok ha 0
  have hpl := zPop_le (bs 0).2 12
  refine z_aload_n C dX2_mean_0 0 rfl ?_
  refine z_get C inX2_mean_X2 0 wB_o rfl 11 (by decide) (C.w 1 rfl) rfl dX2_mean_1 ?_
  refine z_getN C inX2_mean_X1 (12 + 0) (wB_sl (z := 0) (by decide)) rfl 0 (by decide) 2 rfl rfl dX2_mean_4 ?_
  refine z_getN C inX2_mean_X0 (9 + 0) (wB_bs (z := 0) (by decide)) rfl 1 (by decide) 1 rfl rfl dX2_mean_7 ?_
  refine z_callS C (c_J6_bitCount_0f7a4 l g (wB g q a (zG0 a) bs wb pd gw) ((bs 0).2) (by rw [hs.1]; exact hxo.2.2)) (va_cwS 1 C.ts gX2_mean_J6_bitCount_0f7a4 rfl rfl rfl (by decide +kernel) ⟨Nat.le_of_ble_eq_true rfl, Nat.le_of_ble_eq_true rfl⟩) rfl rfl (Nat.le_of_ble_eq_true rfl) dX2_mean_10 ⟨Nat.zero_le _, Nat.zero_le _⟩ (z_i ?_)
  refine z_istore_n C dX2_mean_13 (by decide) [(1, .int (nI (zPop ((bs 0).2) 12))), (0, .ref (q 0))] rfl ?_
  refine z_iload_n C dX2_mean_14 0 rfl ?_
  refine z_if_ne C 20 dX2_mean_15 (by decide) (zeq_N0 (by omega)) (fun c_15 => ?_) (fun c_15 => ?_)
  · skip
    refine z_aload_n C dX2_mean_20 1 rfl ?_
    refine z_get C inX2_mean_X2 0 wB_o rfl 11 (by decide) (C.w 1 rfl) rfl dX2_mean_21 ?_
    refine z_callVN C (c_X1_totalPaid l g q a bs wb pd gw 0 (by decide)) ⟨va_cnB 0 C.ts ggX2_mean_X1_totalPaid rfl rfl rfl (C.K.2.1 _ (List.mem_of_getElem? (i := 14) rfl)) (C.w 10 rfl) (by decide +kernel) ⟨Nat.le_of_ble_eq_true rfl, Nat.le_of_ble_eq_true rfl⟩, (C.w 9 rfl), (C.w 11 rfl)⟩ (wB_sl (z := 0) (by decide)) rfl rfl rfl (Nat.le_of_ble_eq_true rfl) dX2_mean_24 ⟨Nat.zero_le _, Nat.zero_le _⟩ (z_i ?_)
    refine z_i2d C dX2_mean_27 ?_
    refine z_iload_n C dX2_mean_28 0 rfl ?_
    refine z_i2d C dX2_mean_29 ?_
    refine z_ddiv C dX2_mean_30 (zdiv_ok _ _ (fun h => c_15 ((zeq_N0 (by omega)).mp h))) ?_
    exact z_dretP C dX2_mean_31 (by unfold aMean; rw [← hs.1, if_neg c_15, zSi_cong 5 (fun d hd => hs.pd hd)]; rfl) rfl
  · skip
    refine z_dconst0 C dX2_mean_18 ?_
    exact z_dretP C dX2_mean_19 (by unfold aMean; rw [← hs.1, if_pos c_15]) rfl
end
section
theorem dX3_init_0 : decode cX3_init 0 = .ok (.aload_n 0, 1) := by decide +kernel
theorem dX3_init_1 : decode cX3_init 1 = .ok (.invokespecial 1, 3) := by decide +kernel
theorem dX3_init_4 : decode cX3_init 4 = .ok (.aload_n 0, 1) := by decide +kernel
theorem dX3_init_5 : decode cX3_init 5 = .ok (.iconst 0, 1) := by decide +kernel
theorem dX3_init_6 : decode cX3_init 6 = .ok (.newarray .int, 2) := by decide +kernel
theorem dX3_init_8 : decode cX3_init 8 = .ok (.putfield 7, 3) := by decide +kernel
theorem dX3_init_11 : decode cX3_init 11 = .ok (.aload_n 0, 1) := by decide +kernel
theorem dX3_init_12 : decode cX3_init 12 = .ok (.iconst 0, 1) := by decide +kernel
theorem dX3_init_13 : decode cX3_init 13 = .ok (.newarray .boolean, 2) := by decide +kernel
theorem dX3_init_15 : decode cX3_init 15 = .ok (.putfield 13, 3) := by decide +kernel
theorem dX3_init_18 : decode cX3_init 18 = .ok (.aload_n 0, 1) := by decide +kernel
theorem dX3_init_19 : decode cX3_init 19 = .ok (.iconst 0, 1) := by decide +kernel
theorem dX3_init_20 : decode cX3_init 20 = .ok (.anewarray 17, 3) := by decide +kernel
theorem dX3_init_23 : decode cX3_init 23 = .ok (.putfield 18, 3) := by decide +kernel
theorem dX3_init_26 : decode cX3_init 26 = .ok (.return_, 1) := by decide +kernel
theorem dX3_reserve_0 : decode cX3_reserve 0 = .ok (.iconst 0, 1) := by decide +kernel
theorem dX3_reserve_1 : decode cX3_reserve 1 = .ok (.istore_n 2, 1) := by decide +kernel
theorem dX3_reserve_2 : decode cX3_reserve 2 = .ok (.iconst 0, 1) := by decide +kernel
theorem dX3_reserve_3 : decode cX3_reserve 3 = .ok (.istore_n 3, 1) := by decide +kernel
theorem dX3_reserve_4 : decode cX3_reserve 4 = .ok (.iload_n 3, 1) := by decide +kernel
theorem dX3_reserve_5 : decode cX3_reserve 5 = .ok (.aload_n 0, 1) := by decide +kernel
theorem dX3_reserve_6 : decode cX3_reserve 6 = .ok (.getfield 7, 3) := by decide +kernel
theorem dX3_reserve_9 : decode cX3_reserve 9 = .ok (.arraylength, 1) := by decide +kernel
theorem dX3_reserve_10 : decode cX3_reserve 10 = .ok (.if_icmp .ge 24, 3) := by decide +kernel
theorem dX3_reserve_13 : decode cX3_reserve 13 = .ok (.iload_n 2, 1) := by decide +kernel
theorem dX3_reserve_14 : decode cX3_reserve 14 = .ok (.iload_n 1, 1) := by decide +kernel
theorem dX3_reserve_15 : decode cX3_reserve 15 = .ok (.iload_n 3, 1) := by decide +kernel
theorem dX3_reserve_16 : decode cX3_reserve 16 = .ok (.ishr, 1) := by decide +kernel
theorem dX3_reserve_17 : decode cX3_reserve 17 = .ok (.iconst 2, 1) := by decide +kernel
theorem dX3_reserve_18 : decode cX3_reserve 18 = .ok (.irem, 1) := by decide +kernel
theorem dX3_reserve_19 : decode cX3_reserve 19 = .ok (.aload_n 0, 1) := by decide +kernel
theorem dX3_reserve_20 : decode cX3_reserve 20 = .ok (.getfield 7, 3) := by decide +kernel
theorem dX3_reserve_23 : decode cX3_reserve 23 = .ok (.iload_n 3, 1) := by decide +kernel
theorem dX3_reserve_24 : decode cX3_reserve 24 = .ok (.iaload, 1) := by decide +kernel
theorem dX3_reserve_25 : decode cX3_reserve 25 = .ok (.imul, 1) := by decide +kernel
theorem dX3_reserve_26 : decode cX3_reserve 26 = .ok (.iadd, 1) := by decide +kernel
theorem dX3_reserve_27 : decode cX3_reserve 27 = .ok (.istore_n 2, 1) := by decide +kernel
theorem dX3_reserve_28 : decode cX3_reserve 28 = .ok (.iinc 3 1, 3) := by decide +kernel
theorem dX3_reserve_31 : decode cX3_reserve 31 = .ok (.goto (-27), 3) := by decide +kernel
theorem dX3_reserve_34 : decode cX3_reserve 34 = .ok (.iload_n 2, 1) := by decide +kernel
theorem dX3_reserve_35 : decode cX3_reserve 35 = .ok (.ireturn, 1) := by decide +kernel
set_option maxRecDepth 20000 in
theorem ggX3_gain_X3_reserve : GoodIn wsX3_gain wsX3_reserve := goodIn_r _ [6, 7, 8, 9, 10, 11, 12, 13] (by decide +kernel) (by decide +kernel)
set_option maxRecDepth 20000 in
theorem gX3_gain_X3_reserve : GoodIn wsX3_gain (wsV RX3 29 RX3 yX3_reserve wsX3_reserve) := goodIn_app (goodIn_of _ (by decide +kernel)) ggX3_gain_X3_reserve
theorem dX3_gain_0 : decode cX3_gain 0 = .ok (.aload_n 0, 1) := by decide +kernel
theorem dX3_gain_1 : decode cX3_gain 1 = .ok (.getfield 18, 3) := by decide +kernel
theorem dX3_gain_4 : decode cX3_gain 4 = .ok (.iload_n 1, 1) := by decide +kernel
theorem dX3_gain_5 : decode cX3_gain 5 = .ok (.aaload, 1) := by decide +kernel
theorem dX3_gain_6 : decode cX3_gain 6 = .ok (.iconst 2, 1) := by decide +kernel
theorem dX3_gain_7 : decode cX3_gain 7 = .ok (.iaload, 1) := by decide +kernel
theorem dX3_gain_8 : decode cX3_gain 8 = .ok (.aload_n 0, 1) := by decide +kernel
theorem dX3_gain_9 : decode cX3_gain 9 = .ok (.aload_n 0, 1) := by decide +kernel
theorem dX3_gain_10 : decode cX3_gain 10 = .ok (.getfield 18, 3) := by decide +kernel
theorem dX3_gain_13 : decode cX3_gain 13 = .ok (.iload_n 1, 1) := by decide +kernel
theorem dX3_gain_14 : decode cX3_gain 14 = .ok (.aaload, 1) := by decide +kernel
theorem dX3_gain_15 : decode cX3_gain 15 = .ok (.iconst 1, 1) := by decide +kernel
theorem dX3_gain_16 : decode cX3_gain 16 = .ok (.iaload, 1) := by decide +kernel
theorem dX3_gain_17 : decode cX3_gain 17 = .ok (.invokevirtual 29, 3) := by decide +kernel
theorem dX3_gain_20 : decode cX3_gain 20 = .ok (.isub, 1) := by decide +kernel
theorem dX3_gain_21 : decode cX3_gain 21 = .ok (.ireturn, 1) := by decide +kernel
set_option maxRecDepth 20000 in
theorem ggX3_counts_X3_gain : GoodIn wsX3_counts wsX3_gain := goodIn_r _ [7, 1, 8, 9, 10, 6, 11, 12, 13, 14, 15, 16, 17, 18] (by decide +kernel) (by decide +kernel)
set_option maxRecDepth 20000 in
theorem gX3_counts_X3_gain : GoodIn wsX3_counts (wsV RX3 33 RX3 yX3_gain wsX3_gain) := goodIn_app (goodIn_of _ (by decide +kernel)) ggX3_counts_X3_gain
theorem dX3_counts_0 : decode cX3_counts 0 = .ok (.aload_n 0, 1) := by decide +kernel
theorem dX3_counts_1 : decode cX3_counts 1 = .ok (.getfield 18, 3) := by decide +kernel
theorem dX3_counts_4 : decode cX3_counts 4 = .ok (.iload_n 1, 1) := by decide +kernel
theorem dX3_counts_5 : decode cX3_counts 5 = .ok (.aaload, 1) := by decide +kernel
theorem dX3_counts_6 : decode cX3_counts 6 = .ok (.iconst 4, 1) := by decide +kernel
theorem dX3_counts_7 : decode cX3_counts 7 = .ok (.iaload, 1) := by decide +kernel
theorem dX3_counts_8 : decode cX3_counts 8 = .ok (.ifCond .ne 31, 3) := by decide +kernel
theorem dX3_counts_11 : decode cX3_counts 11 = .ok (.aload_n 0, 1) := by decide +kernel
theorem dX3_counts_12 : decode cX3_counts 12 = .ok (.getfield 13, 3) := by decide +kernel
theorem dX3_counts_15 : decode cX3_counts 15 = .ok (.aload_n 0, 1) := by decide +kernel
theorem dX3_counts_16 : decode cX3_counts 16 = .ok (.getfield 18, 3) := by decide +kernel
theorem dX3_counts_19 : decode cX3_counts 19 = .ok (.iload_n 1, 1) := by decide +kernel
theorem dX3_counts_20 : decode cX3_counts 20 = .ok (.aaload, 1) := by decide +kernel
theorem dX3_counts_21 : decode cX3_counts 21 = .ok (.iconst 0, 1) := by decide +kernel
theorem dX3_counts_22 : decode cX3_counts 22 = .ok (.iaload, 1) := by decide +kernel
theorem dX3_counts_23 : decode cX3_counts 23 = .ok (.baload, 1) := by decide +kernel
theorem dX3_counts_24 : decode cX3_counts 24 = .ok (.ifCond .eq 15, 3) := by decide +kernel
theorem dX3_counts_27 : decode cX3_counts 27 = .ok (.aload_n 0, 1) := by decide +kernel
theorem dX3_counts_28 : decode cX3_counts 28 = .ok (.iload_n 1, 1) := by decide +kernel
theorem dX3_counts_29 : decode cX3_counts 29 = .ok (.invokevirtual 33, 3) := by decide +kernel
theorem dX3_counts_32 : decode cX3_counts 32 = .ok (.ifCond .lt 7, 3) := by decide +kernel
theorem dX3_counts_35 : decode cX3_counts 35 = .ok (.iconst 1, 1) := by decide +kernel
theorem dX3_counts_36 : decode cX3_counts 36 = .ok (.goto 4, 3) := by decide +kernel
theorem dX3_counts_39 : decode cX3_counts 39 = .ok (.iconst 0, 1) := by decide +kernel
theorem dX3_counts_40 : decode cX3_counts 40 = .ok (.ireturn, 1) := by decide +kernel
set_option maxRecDepth 20000 in
theorem ggX3_choose_X3_choose : GoodIn wsX3_choose wsX3_choose := goodIn_r _ [0, 1, 2, 3, 4, 5, 6, 7, 8, 9, 10, 11, 12, 13, 14, 15, 16, 17, 18, 19, 20, 21, 22, 23, 24, 25, 26, 27, 28] (by decide +kernel) (by decide +kernel)
set_option maxRecDepth 20000 in
theorem gX3_choose_X3_choose : GoodIn wsX3_choose (wsV RX3 46 RX3 yX3_choose wsX3_choose) := goodIn_app (goodIn_of _ (by decide +kernel)) ggX3_choose_X3_choose
set_option maxRecDepth 20000 in
theorem ggX3_choose_X3_counts : GoodIn wsX3_choose wsX3_counts := goodIn_r _ [13, 5, 1, 14, 15, 16, 9, 17, 18, 19, 20, 21, 22, 23, 24, 25, 26, 27, 28] (by decide +kernel) (by decide +kernel)
set_option maxRecDepth 20000 in
theorem gX3_choose_X3_counts : GoodIn wsX3_choose (wsV RX3 50 RX3 yX3_counts wsX3_counts) := goodIn_app (goodIn_of _ (by decide +kernel)) ggX3_choose_X3_counts
set_option maxRecDepth 20000 in
theorem ggX3_choose_X3_gain : GoodIn wsX3_choose wsX3_gain := goodIn_r _ [17, 5, 18, 19, 20, 9, 21, 22, 23, 24, 25, 26, 27, 28] (by decide +kernel) (by decide +kernel)
set_option maxRecDepth 20000 in
theorem gX3_choose_X3_gain : GoodIn wsX3_choose (wsV RX3 33 RX3 yX3_gain wsX3_gain) := goodIn_app (goodIn_of _ (by decide +kernel)) ggX3_choose_X3_gain
theorem dX3_choose_0 : decode cX3_choose 0 = .ok (.iload_n 1, 1) := by decide +kernel
theorem dX3_choose_1 : decode cX3_choose 1 = .ok (.aload_n 0, 1) := by decide +kernel
theorem dX3_choose_2 : decode cX3_choose 2 = .ok (.getfield 13, 3) := by decide +kernel
theorem dX3_choose_5 : decode cX3_choose 5 = .ok (.arraylength, 1) := by decide +kernel
theorem dX3_choose_6 : decode cX3_choose 6 = .ok (.if_icmp .ne 68, 3) := by decide +kernel
theorem dX3_choose_9 : decode cX3_choose 9 = .ok (.iload 4, 2) := by decide +kernel
theorem dX3_choose_11 : decode cX3_choose 11 = .ok (.aload_n 0, 1) := by decide +kernel
theorem dX3_choose_12 : decode cX3_choose 12 = .ok (.getfield 36, 3) := by decide +kernel
theorem dX3_choose_15 : decode cX3_choose 15 = .ok (.if_icmp .lt 39, 3) := by decide +kernel
theorem dX3_choose_18 : decode cX3_choose 18 = .ok (.iload 4, 2) := by decide +kernel
theorem dX3_choose_20 : decode cX3_choose 20 = .ok (.aload_n 0, 1) := by decide +kernel
theorem dX3_choose_21 : decode cX3_choose 21 = .ok (.getfield 36, 3) := by decide +kernel
theorem dX3_choose_24 : decode cX3_choose 24 = .ok (.if_icmp .ne 31, 3) := by decide +kernel
theorem dX3_choose_27 : decode cX3_choose 27 = .ok (.iload 5, 2) := by decide +kernel
theorem dX3_choose_29 : decode cX3_choose 29 = .ok (.aload_n 0, 1) := by decide +kernel
theorem dX3_choose_30 : decode cX3_choose 30 = .ok (.getfield 40, 3) := by decide +kernel
theorem dX3_choose_33 : decode cX3_choose 33 = .ok (.if_icmp .lt 21, 3) := by decide +kernel
theorem dX3_choose_36 : decode cX3_choose 36 = .ok (.iload 5, 2) := by decide +kernel
theorem dX3_choose_38 : decode cX3_choose 38 = .ok (.aload_n 0, 1) := by decide +kernel
theorem dX3_choose_39 : decode cX3_choose 39 = .ok (.getfield 40, 3) := by decide +kernel
theorem dX3_choose_42 : decode cX3_choose 42 = .ok (.if_icmp .ne 13, 3) := by decide +kernel
theorem dX3_choose_45 : decode cX3_choose 45 = .ok (.iload 6, 2) := by decide +kernel
theorem dX3_choose_47 : decode cX3_choose 47 = .ok (.aload_n 0, 1) := by decide +kernel
theorem dX3_choose_48 : decode cX3_choose 48 = .ok (.getfield 43, 3) := by decide +kernel
theorem dX3_choose_51 : decode cX3_choose 51 = .ok (.if_icmp .le 4, 3) := by decide +kernel
theorem dX3_choose_54 : decode cX3_choose 54 = .ok (.return_, 1) := by decide +kernel
theorem dX3_choose_55 : decode cX3_choose 55 = .ok (.aload_n 0, 1) := by decide +kernel
theorem dX3_choose_56 : decode cX3_choose 56 = .ok (.iload 4, 2) := by decide +kernel
theorem dX3_choose_58 : decode cX3_choose 58 = .ok (.putfield 36, 3) := by decide +kernel
theorem dX3_choose_61 : decode cX3_choose 61 = .ok (.aload_n 0, 1) := by decide +kernel
theorem dX3_choose_62 : decode cX3_choose 62 = .ok (.iload 5, 2) := by decide +kernel
theorem dX3_choose_64 : decode cX3_choose 64 = .ok (.putfield 40, 3) := by decide +kernel
theorem dX3_choose_67 : decode cX3_choose 67 = .ok (.aload_n 0, 1) := by decide +kernel
theorem dX3_choose_68 : decode cX3_choose 68 = .ok (.iload 6, 2) := by decide +kernel
theorem dX3_choose_70 : decode cX3_choose 70 = .ok (.putfield 43, 3) := by decide +kernel
theorem dX3_choose_73 : decode cX3_choose 73 = .ok (.return_, 1) := by decide +kernel
theorem dX3_choose_74 : decode cX3_choose 74 = .ok (.aload_n 0, 1) := by decide +kernel
theorem dX3_choose_75 : decode cX3_choose 75 = .ok (.iload_n 1, 1) := by decide +kernel
theorem dX3_choose_76 : decode cX3_choose 76 = .ok (.iconst 1, 1) := by decide +kernel
theorem dX3_choose_77 : decode cX3_choose 77 = .ok (.iadd, 1) := by decide +kernel
theorem dX3_choose_78 : decode cX3_choose 78 = .ok (.iload_n 2, 1) := by decide +kernel
theorem dX3_choose_79 : decode cX3_choose 79 = .ok (.iload_n 3, 1) := by decide +kernel
theorem dX3_choose_80 : decode cX3_choose 80 = .ok (.iload 4, 2) := by decide +kernel
theorem dX3_choose_82 : decode cX3_choose 82 = .ok (.iload 5, 2) := by decide +kernel
theorem dX3_choose_84 : decode cX3_choose 84 = .ok (.iload 6, 2) := by decide +kernel
theorem dX3_choose_86 : decode cX3_choose 86 = .ok (.invokevirtual 46, 3) := by decide +kernel
theorem dX3_choose_89 : decode cX3_choose 89 = .ok (.iconst 0, 1) := by decide +kernel
theorem dX3_choose_90 : decode cX3_choose 90 = .ok (.istore 7, 2) := by decide +kernel
theorem dX3_choose_92 : decode cX3_choose 92 = .ok (.iload 7, 2) := by decide +kernel
theorem dX3_choose_94 : decode cX3_choose 94 = .ok (.aload_n 0, 1) := by decide +kernel
theorem dX3_choose_95 : decode cX3_choose 95 = .ok (.getfield 18, 3) := by decide +kernel
theorem dX3_choose_98 : decode cX3_choose 98 = .ok (.arraylength, 1) := by decide +kernel
theorem dX3_choose_99 : decode cX3_choose 99 = .ok (.if_icmp .ge 89, 3) := by decide +kernel
theorem dX3_choose_102 : decode cX3_choose 102 = .ok (.iload_n 1, 1) := by decide +kernel
theorem dX3_choose_103 : decode cX3_choose 103 = .ok (.iload_n 2, 1) := by decide +kernel
theorem dX3_choose_104 : decode cX3_choose 104 = .ok (.if_icmp .eq 84, 3) := by decide +kernel
theorem dX3_choose_107 : decode cX3_choose 107 = .ok (.aload_n 0, 1) := by decide +kernel
theorem dX3_choose_108 : decode cX3_choose 108 = .ok (.getfield 18, 3) := by decide +kernel
theorem dX3_choose_111 : decode cX3_choose 111 = .ok (.iload 7, 2) := by decide +kernel
theorem dX3_choose_113 : decode cX3_choose 113 = .ok (.aaload, 1) := by decide +kernel
theorem dX3_choose_114 : decode cX3_choose 114 = .ok (.iconst 0, 1) := by decide +kernel
theorem dX3_choose_115 : decode cX3_choose 115 = .ok (.iaload, 1) := by decide +kernel
theorem dX3_choose_116 : decode cX3_choose 116 = .ok (.iload_n 1, 1) := by decide +kernel
theorem dX3_choose_117 : decode cX3_choose 117 = .ok (.if_icmp .ne 65, 3) := by decide +kernel
theorem dX3_choose_120 : decode cX3_choose 120 = .ok (.aload_n 0, 1) := by decide +kernel
theorem dX3_choose_121 : decode cX3_choose 121 = .ok (.iload 7, 2) := by decide +kernel
theorem dX3_choose_123 : decode cX3_choose 123 = .ok (.invokevirtual 50, 3) := by decide +kernel
theorem dX3_choose_126 : decode cX3_choose 126 = .ok (.ifCond .eq 56, 3) := by decide +kernel
theorem dX3_choose_129 : decode cX3_choose 129 = .ok (.aload_n 0, 1) := by decide +kernel
theorem dX3_choose_130 : decode cX3_choose 130 = .ok (.getfield 18, 3) := by decide +kernel
theorem dX3_choose_133 : decode cX3_choose 133 = .ok (.iload 7, 2) := by decide +kernel
theorem dX3_choose_135 : decode cX3_choose 135 = .ok (.aaload, 1) := by decide +kernel
theorem dX3_choose_136 : decode cX3_choose 136 = .ok (.iconst 1, 1) := by decide +kernel
theorem dX3_choose_137 : decode cX3_choose 137 = .ok (.iaload, 1) := by decide +kernel
theorem dX3_choose_138 : decode cX3_choose 138 = .ok (.iload_n 3, 1) := by decide +kernel
theorem dX3_choose_139 : decode cX3_choose 139 = .ok (.iand, 1) := by decide +kernel
theorem dX3_choose_140 : decode cX3_choose 140 = .ok (.ifCond .ne 42, 3) := by decide +kernel
theorem dX3_choose_143 : decode cX3_choose 143 = .ok (.aload_n 0, 1) := by decide +kernel
theorem dX3_choose_144 : decode cX3_choose 144 = .ok (.iload_n 1, 1) := by decide +kernel
theorem dX3_choose_145 : decode cX3_choose 145 = .ok (.iconst 1, 1) := by decide +kernel
theorem dX3_choose_146 : decode cX3_choose 146 = .ok (.iadd, 1) := by decide +kernel
theorem dX3_choose_147 : decode cX3_choose 147 = .ok (.iload_n 2, 1) := by decide +kernel
theorem dX3_choose_148 : decode cX3_choose 148 = .ok (.iload_n 3, 1) := by decide +kernel
theorem dX3_choose_149 : decode cX3_choose 149 = .ok (.aload_n 0, 1) := by decide +kernel
theorem dX3_choose_150 : decode cX3_choose 150 = .ok (.getfield 18, 3) := by decide +kernel
theorem dX3_choose_153 : decode cX3_choose 153 = .ok (.iload 7, 2) := by decide +kernel
theorem dX3_choose_155 : decode cX3_choose 155 = .ok (.aaload, 1) := by decide +kernel
theorem dX3_choose_156 : decode cX3_choose 156 = .ok (.iconst 1, 1) := by decide +kernel
theorem dX3_choose_157 : decode cX3_choose 157 = .ok (.iaload, 1) := by decide +kernel
theorem dX3_choose_158 : decode cX3_choose 158 = .ok (.ior, 1) := by decide +kernel
theorem dX3_choose_159 : decode cX3_choose 159 = .ok (.iload 4, 2) := by decide +kernel
theorem dX3_choose_161 : decode cX3_choose 161 = .ok (.aload_n 0, 1) := by decide +kernel
theorem dX3_choose_162 : decode cX3_choose 162 = .ok (.iload 7, 2) := by decide +kernel
theorem dX3_choose_164 : decode cX3_choose 164 = .ok (.invokevirtual 33, 3) := by decide +kernel
theorem dX3_choose_167 : decode cX3_choose 167 = .ok (.iadd, 1) := by decide +kernel
theorem dX3_choose_168 : decode cX3_choose 168 = .ok (.iload 5, 2) := by decide +kernel
theorem dX3_choose_170 : decode cX3_choose 170 = .ok (.iconst 1, 1) := by decide +kernel
theorem dX3_choose_171 : decode cX3_choose 171 = .ok (.iadd, 1) := by decide +kernel
theorem dX3_choose_172 : decode cX3_choose 172 = .ok (.iload 6, 2) := by decide +kernel
theorem dX3_choose_174 : decode cX3_choose 174 = .ok (.iconst 1, 1) := by decide +kernel
theorem dX3_choose_175 : decode cX3_choose 175 = .ok (.iload 7, 2) := by decide +kernel
theorem dX3_choose_177 : decode cX3_choose 177 = .ok (.ishl, 1) := by decide +kernel
theorem dX3_choose_178 : decode cX3_choose 178 = .ok (.iadd, 1) := by decide +kernel
theorem dX3_choose_179 : decode cX3_choose 179 = .ok (.invokevirtual 46, 3) := by decide +kernel
theorem dX3_choose_182 : decode cX3_choose 182 = .ok (.iinc 7 1, 3) := by decide +kernel
theorem dX3_choose_185 : decode cX3_choose 185 = .ok (.goto (-93), 3) := by decide +kernel
theorem dX3_choose_188 : decode cX3_choose 188 = .ok (.return_, 1) := by decide +kernel
set_option maxRecDepth 20000 in
theorem ggX3_sale_X3_choose : GoodIn wsX3_sale wsX3_choose := goodIn_r _ [8, 9, 1, 2, 3, 10, 4, 5, 6, 7, 11, 12, 13, 14, 15, 16, 17, 18, 19, 20, 21, 22, 23, 24, 25, 26, 27, 28, 29] (by decide +kernel) (by decide +kernel)
set_option maxRecDepth 20000 in
theorem gX3_sale_X3_choose : GoodIn wsX3_sale (wsV RX3 46 RX3 yX3_choose wsX3_choose) := goodIn_app (goodIn_of _ (by decide +kernel)) ggX3_sale_X3_choose
theorem dX3_sale_0 : decode cX3_sale 0 = .ok (.aload_n 0, 1) := by decide +kernel
theorem dX3_sale_1 : decode cX3_sale 1 = .ok (.iconst 0, 1) := by decide +kernel
theorem dX3_sale_2 : decode cX3_sale 2 = .ok (.putfield 36, 3) := by decide +kernel
theorem dX3_sale_5 : decode cX3_sale 5 = .ok (.aload_n 0, 1) := by decide +kernel
theorem dX3_sale_6 : decode cX3_sale 6 = .ok (.iconst 0, 1) := by decide +kernel
theorem dX3_sale_7 : decode cX3_sale 7 = .ok (.putfield 40, 3) := by decide +kernel
theorem dX3_sale_10 : decode cX3_sale 10 = .ok (.aload_n 0, 1) := by decide +kernel
theorem dX3_sale_11 : decode cX3_sale 11 = .ok (.iconst 0, 1) := by decide +kernel
theorem dX3_sale_12 : decode cX3_sale 12 = .ok (.putfield 43, 3) := by decide +kernel
theorem dX3_sale_15 : decode cX3_sale 15 = .ok (.aload_n 0, 1) := by decide +kernel
theorem dX3_sale_16 : decode cX3_sale 16 = .ok (.iconst 0, 1) := by decide +kernel
theorem dX3_sale_17 : decode cX3_sale 17 = .ok (.iload_n 1, 1) := by decide +kernel
theorem dX3_sale_18 : decode cX3_sale 18 = .ok (.iconst 0, 1) := by decide +kernel
theorem dX3_sale_19 : decode cX3_sale 19 = .ok (.iconst 0, 1) := by decide +kernel
theorem dX3_sale_20 : decode cX3_sale 20 = .ok (.iconst 0, 1) := by decide +kernel
theorem dX3_sale_21 : decode cX3_sale 21 = .ok (.iconst 0, 1) := by decide +kernel
theorem dX3_sale_22 : decode cX3_sale 22 = .ok (.invokevirtual 46, 3) := by decide +kernel
theorem dX3_sale_25 : decode cX3_sale 25 = .ok (.aload_n 0, 1) := by decide +kernel
theorem dX3_sale_26 : decode cX3_sale 26 = .ok (.getfield 43, 3) := by decide +kernel
theorem dX3_sale_29 : decode cX3_sale 29 = .ok (.ireturn, 1) := by decide +kernel
set_option maxRecDepth 20000 in
theorem ggX3_won_X3_sale : GoodIn wsX3_won wsX3_sale := goodIn_r _ [6, 7, 8, 9, 10, 11, 12, 5, 13, 14, 1, 15, 16, 17, 18, 19, 20, 21, 22, 23, 24, 25, 26, 27, 28, 29, 30, 31, 32, 33] (by decide +kernel) (by decide +kernel)
set_option maxRecDepth 20000 in
theorem gX3_won_X3_sale : GoodIn wsX3_won (wsV RX3 54 RX3 yX3_sale wsX3_sale) := goodIn_app (goodIn_of _ (by decide +kernel)) ggX3_won_X3_sale
theorem dX3_won_0 : decode cX3_won 0 = .ok (.aload_n 0, 1) := by decide +kernel
theorem dX3_won_1 : decode cX3_won 1 = .ok (.iconst (-1), 1) := by decide +kernel
theorem dX3_won_2 : decode cX3_won 2 = .ok (.invokevirtual 54, 3) := by decide +kernel
theorem dX3_won_5 : decode cX3_won 5 = .ok (.istore_n 2, 1) := by decide +kernel
theorem dX3_won_6 : decode cX3_won 6 = .ok (.iconst 0, 1) := by decide +kernel
theorem dX3_won_7 : decode cX3_won 7 = .ok (.istore_n 3, 1) := by decide +kernel
theorem dX3_won_8 : decode cX3_won 8 = .ok (.iload_n 3, 1) := by decide +kernel
theorem dX3_won_9 : decode cX3_won 9 = .ok (.aload_n 0, 1) := by decide +kernel
theorem dX3_won_10 : decode cX3_won 10 = .ok (.getfield 18, 3) := by decide +kernel
theorem dX3_won_13 : decode cX3_won 13 = .ok (.arraylength, 1) := by decide +kernel
theorem dX3_won_14 : decode cX3_won 14 = .ok (.if_icmp .ge 32, 3) := by decide +kernel
theorem dX3_won_17 : decode cX3_won 17 = .ok (.iload_n 2, 1) := by decide +kernel
theorem dX3_won_18 : decode cX3_won 18 = .ok (.iload_n 3, 1) := by decide +kernel
theorem dX3_won_19 : decode cX3_won 19 = .ok (.ishr, 1) := by decide +kernel
theorem dX3_won_20 : decode cX3_won 20 = .ok (.iconst 2, 1) := by decide +kernel
theorem dX3_won_21 : decode cX3_won 21 = .ok (.irem, 1) := by decide +kernel
theorem dX3_won_22 : decode cX3_won 22 = .ok (.iconst 1, 1) := by decide +kernel
theorem dX3_won_23 : decode cX3_won 23 = .ok (.if_icmp .ne 17, 3) := by decide +kernel
theorem dX3_won_26 : decode cX3_won 26 = .ok (.aload_n 0, 1) := by decide +kernel
theorem dX3_won_27 : decode cX3_won 27 = .ok (.getfield 18, 3) := by decide +kernel
theorem dX3_won_30 : decode cX3_won 30 = .ok (.iload_n 3, 1) := by decide +kernel
theorem dX3_won_31 : decode cX3_won 31 = .ok (.aaload, 1) := by decide +kernel
theorem dX3_won_32 : decode cX3_won 32 = .ok (.iconst 0, 1) := by decide +kernel
theorem dX3_won_33 : decode cX3_won 33 = .ok (.iaload, 1) := by decide +kernel
theorem dX3_won_34 : decode cX3_won 34 = .ok (.iload_n 1, 1) := by decide +kernel
theorem dX3_won_35 : decode cX3_won 35 = .ok (.if_icmp .ne 5, 3) := by decide +kernel
theorem dX3_won_38 : decode cX3_won 38 = .ok (.iload_n 3, 1) := by decide +kernel
theorem dX3_won_39 : decode cX3_won 39 = .ok (.ireturn, 1) := by decide +kernel
theorem dX3_won_40 : decode cX3_won 40 = .ok (.iinc 3 1, 3) := by decide +kernel
theorem dX3_won_43 : decode cX3_won 43 = .ok (.goto (-35), 3) := by decide +kernel
theorem dX3_won_46 : decode cX3_won 46 = .ok (.iconst (-1), 1) := by decide +kernel
theorem dX3_won_47 : decode cX3_won 47 = .ok (.ireturn, 1) := by decide +kernel
set_option maxRecDepth 20000 in
theorem ggX3_pays_X3_won : GoodIn wsX3_pays wsX3_won := goodIn_r _ [7, 2, 8, 9, 10, 6, 11, 1, 12, 13, 14, 15, 16, 17, 18, 19, 20, 21, 22, 23, 24, 25, 26, 27, 28, 29, 30, 31, 32, 33, 34, 35, 36, 37] (by decide +kernel) (by decide +kernel)
set_option maxRecDepth 20000 in
theorem gX3_pays_X3_won : GoodIn wsX3_pays (wsV RX3 57 RX3 yX3_won wsX3_won) := goodIn_app (goodIn_of _ (by decide +kernel)) ggX3_pays_X3_won
set_option maxRecDepth 20000 in
theorem ggX3_pays_X3_gain : GoodIn wsX3_pays wsX3_gain := goodIn_r _ [26, 2, 27, 28, 29, 6, 30, 31, 32, 33, 34, 35, 36, 37] (by decide +kernel) (by decide +kernel)
set_option maxRecDepth 20000 in
theorem gX3_pays_X3_gain : GoodIn wsX3_pays (wsV RX3 33 RX3 yX3_gain wsX3_gain) := goodIn_app (goodIn_of _ (by decide +kernel)) ggX3_pays_X3_gain
set_option maxRecDepth 20000 in
theorem ggX3_pays_X3_sale : GoodIn wsX3_pays wsX3_sale := goodIn_r _ [11, 1, 12, 13, 14, 15, 16, 6, 17, 18, 2, 19, 20, 21, 22, 23, 24, 25, 26, 27, 28, 29, 30, 31, 32, 33, 34, 35, 36, 37] (by decide +kernel) (by decide +kernel)
set_option maxRecDepth 20000 in
theorem gX3_pays_X3_sale : GoodIn wsX3_pays (wsV RX3 54 RX3 yX3_sale wsX3_sale) := goodIn_app (goodIn_of _ (by decide +kernel)) ggX3_pays_X3_sale
set_option maxRecDepth 20000 in
theorem ggX3_pays_X3_reserve : GoodIn wsX3_pays wsX3_reserve := goodIn_r _ [30, 31, 32, 33, 34, 35, 36, 37] (by decide +kernel) (by decide +kernel)
set_option maxRecDepth 20000 in
theorem gX3_pays_X3_reserve : GoodIn wsX3_pays (wsV RX3 29 RX3 yX3_reserve wsX3_reserve) := goodIn_app (goodIn_of _ (by decide +kernel)) ggX3_pays_X3_reserve
theorem dX3_pays_0 : decode cX3_pays 0 = .ok (.aload_n 0, 1) := by decide +kernel
theorem dX3_pays_1 : decode cX3_pays 1 = .ok (.iload_n 1, 1) := by decide +kernel
theorem dX3_pays_2 : decode cX3_pays 2 = .ok (.invokevirtual 57, 3) := by decide +kernel
theorem dX3_pays_5 : decode cX3_pays 5 = .ok (.istore_n 2, 1) := by decide +kernel
theorem dX3_pays_6 : decode cX3_pays 6 = .ok (.iload_n 2, 1) := by decide +kernel
theorem dX3_pays_7 : decode cX3_pays 7 = .ok (.ifCond .ge 5, 3) := by decide +kernel
theorem dX3_pays_10 : decode cX3_pays 10 = .ok (.iconst 0, 1) := by decide +kernel
theorem dX3_pays_11 : decode cX3_pays 11 = .ok (.ireturn, 1) := by decide +kernel
theorem dX3_pays_12 : decode cX3_pays 12 = .ok (.aload_n 0, 1) := by decide +kernel
theorem dX3_pays_13 : decode cX3_pays 13 = .ok (.getfield 36, 3) := by decide +kernel
theorem dX3_pays_16 : decode cX3_pays 16 = .ok (.aload_n 0, 1) := by decide +kernel
theorem dX3_pays_17 : decode cX3_pays 17 = .ok (.iload_n 2, 1) := by decide +kernel
theorem dX3_pays_18 : decode cX3_pays 18 = .ok (.invokevirtual 33, 3) := by decide +kernel
theorem dX3_pays_21 : decode cX3_pays 21 = .ok (.isub, 1) := by decide +kernel
theorem dX3_pays_22 : decode cX3_pays 22 = .ok (.istore_n 3, 1) := by decide +kernel
theorem dX3_pays_23 : decode cX3_pays 23 = .ok (.aload_n 0, 1) := by decide +kernel
theorem dX3_pays_24 : decode cX3_pays 24 = .ok (.iload_n 1, 1) := by decide +kernel
theorem dX3_pays_25 : decode cX3_pays 25 = .ok (.invokevirtual 54, 3) := by decide +kernel
theorem dX3_pays_28 : decode cX3_pays 28 = .ok (.pop, 1) := by decide +kernel
theorem dX3_pays_29 : decode cX3_pays 29 = .ok (.aload_n 0, 1) := by decide +kernel
theorem dX3_pays_30 : decode cX3_pays 30 = .ok (.aload_n 0, 1) := by decide +kernel
theorem dX3_pays_31 : decode cX3_pays 31 = .ok (.getfield 18, 3) := by decide +kernel
theorem dX3_pays_34 : decode cX3_pays 34 = .ok (.iload_n 2, 1) := by decide +kernel
theorem dX3_pays_35 : decode cX3_pays 35 = .ok (.aaload, 1) := by decide +kernel
theorem dX3_pays_36 : decode cX3_pays 36 = .ok (.iconst 1, 1) := by decide +kernel
theorem dX3_pays_37 : decode cX3_pays 37 = .ok (.iaload, 1) := by decide +kernel
theorem dX3_pays_38 : decode cX3_pays 38 = .ok (.invokevirtual 29, 3) := by decide +kernel
theorem dX3_pays_41 : decode cX3_pays 41 = .ok (.aload_n 0, 1) := by decide +kernel
theorem dX3_pays_42 : decode cX3_pays 42 = .ok (.getfield 36, 3) := by decide +kernel
theorem dX3_pays_45 : decode cX3_pays 45 = .ok (.iadd, 1) := by decide +kernel
theorem dX3_pays_46 : decode cX3_pays 46 = .ok (.iload_n 3, 1) := by decide +kernel
theorem dX3_pays_47 : decode cX3_pays 47 = .ok (.isub, 1) := by decide +kernel
theorem dX3_pays_48 : decode cX3_pays 48 = .ok (.ireturn, 1) := by decide +kernel
set_option maxRecDepth 20000 in
theorem ggX3_profit_X3_won : GoodIn wsX3_profit wsX3_won := goodIn_r _ [6, 1, 7, 8, 9, 5, 10, 11, 12, 13, 14, 15, 16, 17, 18, 19, 20, 21, 22, 23, 24, 25, 26, 27, 28, 29, 30, 31, 36, 37, 38, 39, 40, 41] (by decide +kernel) (by decide +kernel)
set_option maxRecDepth 20000 in
theorem gX3_profit_X3_won : GoodIn wsX3_profit (wsV RX3 57 RX3 yX3_won wsX3_won) := goodIn_app (goodIn_of _ (by decide +kernel)) ggX3_profit_X3_won
set_option maxRecDepth 20000 in
theorem ggX3_profit_X3_pays : GoodIn wsX3_profit wsX3_pays := goodIn_r _ [35, 11, 1, 2, 3, 4, 5, 6, 7, 8, 9, 10, 12, 13, 14, 15, 16, 17, 18, 19, 20, 21, 22, 23, 24, 25, 26, 27, 28, 29, 30, 31, 36, 37, 38, 39, 40, 41] (by decide +kernel) (by decide +kernel)
set_option maxRecDepth 20000 in
theorem gX3_profit_X3_pays : GoodIn wsX3_profit (wsV RX3 60 RX3 yX3_pays wsX3_pays) := goodIn_app (goodIn_of _ (by decide +kernel)) ggX3_profit_X3_pays
theorem dX3_profit_0 : decode cX3_profit 0 = .ok (.aload_n 0, 1) := by decide +kernel
theorem dX3_profit_1 : decode cX3_profit 1 = .ok (.iload_n 1, 1) := by decide +kernel
theorem dX3_profit_2 : decode cX3_profit 2 = .ok (.invokevirtual 57, 3) := by decide +kernel
theorem dX3_profit_5 : decode cX3_profit 5 = .ok (.ifCond .ge 7, 3) := by decide +kernel
theorem dX3_profit_8 : decode cX3_profit 8 = .ok (.iconst 0, 1) := by decide +kernel
theorem dX3_profit_9 : decode cX3_profit 9 = .ok (.goto 21, 3) := by decide +kernel
theorem dX3_profit_12 : decode cX3_profit 12 = .ok (.aload_n 0, 1) := by decide +kernel
theorem dX3_profit_13 : decode cX3_profit 13 = .ok (.getfield 18, 3) := by decide +kernel
theorem dX3_profit_16 : decode cX3_profit 16 = .ok (.aload_n 0, 1) := by decide +kernel
theorem dX3_profit_17 : decode cX3_profit 17 = .ok (.iload_n 1, 1) := by decide +kernel
theorem dX3_profit_18 : decode cX3_profit 18 = .ok (.invokevirtual 57, 3) := by decide +kernel
theorem dX3_profit_21 : decode cX3_profit 21 = .ok (.aaload, 1) := by decide +kernel
theorem dX3_profit_22 : decode cX3_profit 22 = .ok (.iconst 3, 1) := by decide +kernel
theorem dX3_profit_23 : decode cX3_profit 23 = .ok (.iaload, 1) := by decide +kernel
theorem dX3_profit_24 : decode cX3_profit 24 = .ok (.aload_n 0, 1) := by decide +kernel
theorem dX3_profit_25 : decode cX3_profit 25 = .ok (.iload_n 1, 1) := by decide +kernel
theorem dX3_profit_26 : decode cX3_profit 26 = .ok (.invokevirtual 60, 3) := by decide +kernel
theorem dX3_profit_29 : decode cX3_profit 29 = .ok (.isub, 1) := by decide +kernel
theorem dX3_profit_30 : decode cX3_profit 30 = .ok (.ireturn, 1) := by decide +kernel
set_option maxRecDepth 20000 in
theorem ggX3_alone_X3_counts : GoodIn wsX3_alone wsX3_counts := goodIn_r _ [8, 1, 9, 10, 11, 12, 7, 13, 14, 15, 16, 17, 3, 18, 19, 20, 21, 22, 23] (by decide +kernel) (by decide +kernel)
set_option maxRecDepth 20000 in
theorem gX3_alone_X3_counts : GoodIn wsX3_alone (wsV RX3 50 RX3 yX3_counts wsX3_counts) := goodIn_app (goodIn_of _ (by decide +kernel)) ggX3_alone_X3_counts
theorem dX3_alone_0 : decode cX3_alone 0 = .ok (.iconst (-1), 1) := by decide +kernel
theorem dX3_alone_1 : decode cX3_alone 1 = .ok (.istore_n 2, 1) := by decide +kernel
theorem dX3_alone_2 : decode cX3_alone 2 = .ok (.aload_n 0, 1) := by decide +kernel
theorem dX3_alone_3 : decode cX3_alone 3 = .ok (.getfield 18, 3) := by decide +kernel
theorem dX3_alone_6 : decode cX3_alone 6 = .ok (.arraylength, 1) := by decide +kernel
theorem dX3_alone_7 : decode cX3_alone 7 = .ok (.iconst 1, 1) := by decide +kernel
theorem dX3_alone_8 : decode cX3_alone 8 = .ok (.isub, 1) := by decide +kernel
theorem dX3_alone_9 : decode cX3_alone 9 = .ok (.istore_n 3, 1) := by decide +kernel
theorem dX3_alone_10 : decode cX3_alone 10 = .ok (.iload_n 3, 1) := by decide +kernel
theorem dX3_alone_11 : decode cX3_alone 11 = .ok (.ifCond .lt 56, 3) := by decide +kernel
theorem dX3_alone_14 : decode cX3_alone 14 = .ok (.aload_n 0, 1) := by decide +kernel
theorem dX3_alone_15 : decode cX3_alone 15 = .ok (.iload_n 3, 1) := by decide +kernel
theorem dX3_alone_16 : decode cX3_alone 16 = .ok (.invokevirtual 50, 3) := by decide +kernel
theorem dX3_alone_19 : decode cX3_alone 19 = .ok (.ifCond .eq 42, 3) := by decide +kernel
theorem dX3_alone_22 : decode cX3_alone 22 = .ok (.aload_n 0, 1) := by decide +kernel
theorem dX3_alone_23 : decode cX3_alone 23 = .ok (.getfield 18, 3) := by decide +kernel
theorem dX3_alone_26 : decode cX3_alone 26 = .ok (.iload_n 3, 1) := by decide +kernel
theorem dX3_alone_27 : decode cX3_alone 27 = .ok (.aaload, 1) := by decide +kernel
theorem dX3_alone_28 : decode cX3_alone 28 = .ok (.iconst 1, 1) := by decide +kernel
theorem dX3_alone_29 : decode cX3_alone 29 = .ok (.iaload, 1) := by decide +kernel
theorem dX3_alone_30 : decode cX3_alone 30 = .ok (.iconst 1, 1) := by decide +kernel
theorem dX3_alone_31 : decode cX3_alone 31 = .ok (.iload_n 1, 1) := by decide +kernel
theorem dX3_alone_32 : decode cX3_alone 32 = .ok (.ishl, 1) := by decide +kernel
theorem dX3_alone_33 : decode cX3_alone 33 = .ok (.if_icmp .ne 28, 3) := by decide +kernel
theorem dX3_alone_36 : decode cX3_alone 36 = .ok (.iload_n 2, 1) := by decide +kernel
theorem dX3_alone_37 : decode cX3_alone 37 = .ok (.ifCond .lt 22, 3) := by decide +kernel
theorem dX3_alone_40 : decode cX3_alone 40 = .ok (.aload_n 0, 1) := by decide +kernel
theorem dX3_alone_41 : decode cX3_alone 41 = .ok (.getfield 18, 3) := by decide +kernel
theorem dX3_alone_44 : decode cX3_alone 44 = .ok (.iload_n 3, 1) := by decide +kernel
theorem dX3_alone_45 : decode cX3_alone 45 = .ok (.aaload, 1) := by decide +kernel
theorem dX3_alone_46 : decode cX3_alone 46 = .ok (.iconst 2, 1) := by decide +kernel
theorem dX3_alone_47 : decode cX3_alone 47 = .ok (.iaload, 1) := by decide +kernel
theorem dX3_alone_48 : decode cX3_alone 48 = .ok (.aload_n 0, 1) := by decide +kernel
theorem dX3_alone_49 : decode cX3_alone 49 = .ok (.getfield 18, 3) := by decide +kernel
theorem dX3_alone_52 : decode cX3_alone 52 = .ok (.iload_n 2, 1) := by decide +kernel
theorem dX3_alone_53 : decode cX3_alone 53 = .ok (.aaload, 1) := by decide +kernel
theorem dX3_alone_54 : decode cX3_alone 54 = .ok (.iconst 2, 1) := by decide +kernel
theorem dX3_alone_55 : decode cX3_alone 55 = .ok (.iaload, 1) := by decide +kernel
theorem dX3_alone_56 : decode cX3_alone 56 = .ok (.if_icmp .lt 5, 3) := by decide +kernel
theorem dX3_alone_59 : decode cX3_alone 59 = .ok (.iload_n 3, 1) := by decide +kernel
theorem dX3_alone_60 : decode cX3_alone 60 = .ok (.istore_n 2, 1) := by decide +kernel
theorem dX3_alone_61 : decode cX3_alone 61 = .ok (.iinc 3 (-1), 3) := by decide +kernel
theorem dX3_alone_64 : decode cX3_alone 64 = .ok (.goto (-54), 3) := by decide +kernel
theorem dX3_alone_67 : decode cX3_alone 67 = .ok (.iload_n 2, 1) := by decide +kernel
theorem dX3_alone_68 : decode cX3_alone 68 = .ok (.ifCond .ge 19, 3) := by decide +kernel
theorem dX3_alone_71 : decode cX3_alone 71 = .ok (.iconst 3, 1) := by decide +kernel
theorem dX3_alone_72 : decode cX3_alone 72 = .ok (.newarray .int, 2) := by decide +kernel
theorem dX3_alone_74 : decode cX3_alone 74 = .ok (.dup, 1) := by decide +kernel
theorem dX3_alone_75 : decode cX3_alone 75 = .ok (.iconst 0, 1) := by decide +kernel
theorem dX3_alone_76 : decode cX3_alone 76 = .ok (.iconst (-1), 1) := by decide +kernel
theorem dX3_alone_77 : decode cX3_alone 77 = .ok (.iastore, 1) := by decide +kernel
theorem dX3_alone_78 : decode cX3_alone 78 = .ok (.dup, 1) := by decide +kernel
theorem dX3_alone_79 : decode cX3_alone 79 = .ok (.iconst 1, 1) := by decide +kernel
theorem dX3_alone_80 : decode cX3_alone 80 = .ok (.iconst (-1), 1) := by decide +kernel
theorem dX3_alone_81 : decode cX3_alone 81 = .ok (.iastore, 1) := by decide +kernel
theorem dX3_alone_82 : decode cX3_alone 82 = .ok (.dup, 1) := by decide +kernel
theorem dX3_alone_83 : decode cX3_alone 83 = .ok (.iconst 2, 1) := by decide +kernel
theorem dX3_alone_84 : decode cX3_alone 84 = .ok (.iconst (-1), 1) := by decide +kernel
theorem dX3_alone_85 : decode cX3_alone 85 = .ok (.iastore, 1) := by decide +kernel
theorem dX3_alone_86 : decode cX3_alone 86 = .ok (.areturn, 1) := by decide +kernel
theorem dX3_alone_87 : decode cX3_alone 87 = .ok (.aload_n 0, 1) := by decide +kernel
theorem dX3_alone_88 : decode cX3_alone 88 = .ok (.getfield 7, 3) := by decide +kernel
theorem dX3_alone_91 : decode cX3_alone 91 = .ok (.iload_n 1, 1) := by decide +kernel
theorem dX3_alone_92 : decode cX3_alone 92 = .ok (.iaload, 1) := by decide +kernel
theorem dX3_alone_93 : decode cX3_alone 93 = .ok (.istore_n 3, 1) := by decide +kernel
theorem dX3_alone_94 : decode cX3_alone 94 = .ok (.iconst 0, 1) := by decide +kernel
theorem dX3_alone_95 : decode cX3_alone 95 = .ok (.istore 4, 2) := by decide +kernel
theorem dX3_alone_97 : decode cX3_alone 97 = .ok (.iload 4, 2) := by decide +kernel
theorem dX3_alone_99 : decode cX3_alone 99 = .ok (.aload_n 0, 1) := by decide +kernel
theorem dX3_alone_100 : decode cX3_alone 100 = .ok (.getfield 18, 3) := by decide +kernel
theorem dX3_alone_103 : decode cX3_alone 103 = .ok (.arraylength, 1) := by decide +kernel
theorem dX3_alone_104 : decode cX3_alone 104 = .ok (.if_icmp .ge 76, 3) := by decide +kernel
theorem dX3_alone_107 : decode cX3_alone 107 = .ok (.aload_n 0, 1) := by decide +kernel
theorem dX3_alone_108 : decode cX3_alone 108 = .ok (.iload 4, 2) := by decide +kernel
theorem dX3_alone_110 : decode cX3_alone 110 = .ok (.invokevirtual 50, 3) := by decide +kernel
theorem dX3_alone_113 : decode cX3_alone 113 = .ok (.ifCond .eq 61, 3) := by decide +kernel
theorem dX3_alone_116 : decode cX3_alone 116 = .ok (.aload_n 0, 1) := by decide +kernel
theorem dX3_alone_117 : decode cX3_alone 117 = .ok (.getfield 18, 3) := by decide +kernel
theorem dX3_alone_120 : decode cX3_alone 120 = .ok (.iload 4, 2) := by decide +kernel
theorem dX3_alone_122 : decode cX3_alone 122 = .ok (.aaload, 1) := by decide +kernel
theorem dX3_alone_123 : decode cX3_alone 123 = .ok (.iconst 1, 1) := by decide +kernel
theorem dX3_alone_124 : decode cX3_alone 124 = .ok (.iaload, 1) := by decide +kernel
theorem dX3_alone_125 : decode cX3_alone 125 = .ok (.iconst 1, 1) := by decide +kernel
theorem dX3_alone_126 : decode cX3_alone 126 = .ok (.iload_n 1, 1) := by decide +kernel
theorem dX3_alone_127 : decode cX3_alone 127 = .ok (.ishl, 1) := by decide +kernel
theorem dX3_alone_128 : decode cX3_alone 128 = .ok (.if_icmp .ne 46, 3) := by decide +kernel
theorem dX3_alone_131 : decode cX3_alone 131 = .ok (.aload_n 0, 1) := by decide +kernel
theorem dX3_alone_132 : decode cX3_alone 132 = .ok (.getfield 18, 3) := by decide +kernel
theorem dX3_alone_135 : decode cX3_alone 135 = .ok (.iload 4, 2) := by decide +kernel
theorem dX3_alone_137 : decode cX3_alone 137 = .ok (.aaload, 1) := by decide +kernel
theorem dX3_alone_138 : decode cX3_alone 138 = .ok (.iconst 0, 1) := by decide +kernel
theorem dX3_alone_139 : decode cX3_alone 139 = .ok (.iaload, 1) := by decide +kernel
theorem dX3_alone_140 : decode cX3_alone 140 = .ok (.aload_n 0, 1) := by decide +kernel
theorem dX3_alone_141 : decode cX3_alone 141 = .ok (.getfield 18, 3) := by decide +kernel
theorem dX3_alone_144 : decode cX3_alone 144 = .ok (.iload_n 2, 1) := by decide +kernel
theorem dX3_alone_145 : decode cX3_alone 145 = .ok (.aaload, 1) := by decide +kernel
theorem dX3_alone_146 : decode cX3_alone 146 = .ok (.iconst 0, 1) := by decide +kernel
theorem dX3_alone_147 : decode cX3_alone 147 = .ok (.iaload, 1) := by decide +kernel
theorem dX3_alone_148 : decode cX3_alone 148 = .ok (.if_icmp .eq 26, 3) := by decide +kernel
theorem dX3_alone_151 : decode cX3_alone 151 = .ok (.aload_n 0, 1) := by decide +kernel
theorem dX3_alone_152 : decode cX3_alone 152 = .ok (.getfield 18, 3) := by decide +kernel
theorem dX3_alone_155 : decode cX3_alone 155 = .ok (.iload 4, 2) := by decide +kernel
theorem dX3_alone_157 : decode cX3_alone 157 = .ok (.aaload, 1) := by decide +kernel
theorem dX3_alone_158 : decode cX3_alone 158 = .ok (.iconst 2, 1) := by decide +kernel
theorem dX3_alone_159 : decode cX3_alone 159 = .ok (.iaload, 1) := by decide +kernel
theorem dX3_alone_160 : decode cX3_alone 160 = .ok (.iload_n 3, 1) := by decide +kernel
theorem dX3_alone_161 : decode cX3_alone 161 = .ok (.if_icmp .le 13, 3) := by decide +kernel
theorem dX3_alone_164 : decode cX3_alone 164 = .ok (.aload_n 0, 1) := by decide +kernel
theorem dX3_alone_165 : decode cX3_alone 165 = .ok (.getfield 18, 3) := by decide +kernel
theorem dX3_alone_168 : decode cX3_alone 168 = .ok (.iload 4, 2) := by decide +kernel
theorem dX3_alone_170 : decode cX3_alone 170 = .ok (.aaload, 1) := by decide +kernel
theorem dX3_alone_171 : decode cX3_alone 171 = .ok (.iconst 2, 1) := by decide +kernel
theorem dX3_alone_172 : decode cX3_alone 172 = .ok (.iaload, 1) := by decide +kernel
theorem dX3_alone_173 : decode cX3_alone 173 = .ok (.istore_n 3, 1) := by decide +kernel
theorem dX3_alone_174 : decode cX3_alone 174 = .ok (.iinc 4 1, 3) := by decide +kernel
theorem dX3_alone_177 : decode cX3_alone 177 = .ok (.goto (-80), 3) := by decide +kernel
theorem dX3_alone_180 : decode cX3_alone 180 = .ok (.iconst 3, 1) := by decide +kernel
theorem dX3_alone_181 : decode cX3_alone 181 = .ok (.newarray .int, 2) := by decide +kernel
theorem dX3_alone_183 : decode cX3_alone 183 = .ok (.dup, 1) := by decide +kernel
theorem dX3_alone_184 : decode cX3_alone 184 = .ok (.iconst 0, 1) := by decide +kernel
theorem dX3_alone_185 : decode cX3_alone 185 = .ok (.iload_n 2, 1) := by decide +kernel
theorem dX3_alone_186 : decode cX3_alone 186 = .ok (.iastore, 1) := by decide +kernel
theorem dX3_alone_187 : decode cX3_alone 187 = .ok (.dup, 1) := by decide +kernel
theorem dX3_alone_188 : decode cX3_alone 188 = .ok (.iconst 1, 1) := by decide +kernel
theorem dX3_alone_189 : decode cX3_alone 189 = .ok (.aload_n 0, 1) := by decide +kernel
theorem dX3_alone_190 : decode cX3_alone 190 = .ok (.getfield 18, 3) := by decide +kernel
theorem dX3_alone_193 : decode cX3_alone 193 = .ok (.iload_n 2, 1) := by decide +kernel
theorem dX3_alone_194 : decode cX3_alone 194 = .ok (.aaload, 1) := by decide +kernel
theorem dX3_alone_195 : decode cX3_alone 195 = .ok (.iconst 0, 1) := by decide +kernel
theorem dX3_alone_196 : decode cX3_alone 196 = .ok (.iaload, 1) := by decide +kernel
theorem dX3_alone_197 : decode cX3_alone 197 = .ok (.iastore, 1) := by decide +kernel
theorem dX3_alone_198 : decode cX3_alone 198 = .ok (.dup, 1) := by decide +kernel
theorem dX3_alone_199 : decode cX3_alone 199 = .ok (.iconst 2, 1) := by decide +kernel
theorem dX3_alone_200 : decode cX3_alone 200 = .ok (.iload_n 3, 1) := by decide +kernel
theorem dX3_alone_201 : decode cX3_alone 201 = .ok (.iastore, 1) := by decide +kernel
theorem dX3_alone_202 : decode cX3_alone 202 = .ok (.areturn, 1) := by decide +kernel
set_option maxRecDepth 20000 in
theorem ggX3_isSame_X3_sale : GoodIn wsX3_isSame wsX3_sale := goodIn_r _ [11, 1, 2, 12, 13, 14, 15, 10, 16, 5, 3, 17, 18, 19, 20, 21, 22, 23, 24, 25, 26, 27, 28, 6, 166, 167, 168, 169, 170, 171] (by decide +kernel) (by decide +kernel)
set_option maxRecDepth 20000 in
theorem gX3_isSame_X3_sale : GoodIn wsX3_isSame (wsV RX3 54 RX3 yX3_sale wsX3_sale) := goodIn_app (goodIn_of _ (by decide +kernel)) ggX3_isSame_X3_sale
set_option maxRecDepth 20000 in
theorem ggX3_isSame_X3_gain : GoodIn wsX3_isSame wsX3_gain := goodIn_r _ [24, 3, 25, 26, 27, 10, 28, 6, 166, 167, 168, 169, 170, 171] (by decide +kernel) (by decide +kernel)
set_option maxRecDepth 20000 in
theorem gX3_isSame_X3_gain : GoodIn wsX3_isSame (wsV RX3 33 RX3 yX3_gain wsX3_gain) := goodIn_app (goodIn_of _ (by decide +kernel)) ggX3_isSame_X3_gain
set_option maxRecDepth 20000 in
theorem ggX3_isSame_X3_counts : GoodIn wsX3_isSame wsX3_counts := goodIn_r _ [20, 3, 5, 21, 22, 23, 10, 24, 25, 26, 27, 28, 6, 166, 167, 168, 169, 170, 171] (by decide +kernel) (by decide +kernel)
set_option maxRecDepth 20000 in
theorem gX3_isSame_X3_counts : GoodIn wsX3_isSame (wsV RX3 50 RX3 yX3_counts wsX3_counts) := goodIn_app (goodIn_of _ (by decide +kernel)) ggX3_isSame_X3_counts
set_option maxRecDepth 20000 in
theorem ggX3_isSame_X2_told : GoodIn wsX3_isSame wsX2_told := goodIn_ca (goodIn_r _ [33, 34, 35, 36, 37, 38, 39, 40, 41, 42, 43, 32, 44, 45, 46, 47, 48, 49, 50, 51, 52, 53, 54, 55, 56, 57, 58, 59, 60, 61, 62, 63, 172, 173, 174, 175, 176, 177, 178, 179, 180, 181, 182, 183, 184, 185, 186, 187, 188, 189, 190, 191] (by decide +kernel) (by decide +kernel)) (goodIn_sub (fun _ h => List.mem_cons_of_mem _ (List.mem_append_right _ h)) (by decide +kernel))
set_option maxRecDepth 20000 in
theorem gX3_isSame_X2_told : GoodIn wsX3_isSame (wsV RX3 63 RX2 yX2_told wsX2_told) := goodIn_app (goodIn_of _ (by decide +kernel)) ggX3_isSame_X2_told
set_option maxRecDepth 20000 in
theorem ggX3_isSame_X3_won : GoodIn wsX3_isSame wsX3_won := goodIn_r _ [67, 3, 7, 8, 9, 10, 11, 1, 2, 12, 13, 14, 15, 16, 5, 17, 18, 19, 20, 21, 22, 23, 24, 25, 26, 27, 28, 6, 166, 167, 168, 169, 170, 171] (by decide +kernel) (by decide +kernel)
set_option maxRecDepth 20000 in
theorem gX3_isSame_X3_won : GoodIn wsX3_isSame (wsV RX3 57 RX3 yX3_won wsX3_won) := goodIn_app (goodIn_of _ (by decide +kernel)) ggX3_isSame_X3_won
end
section
set_option maxRecDepth 20000 in
theorem ggX3_isSame_X3_pays : GoodIn wsX3_isSame wsX3_pays := goodIn_r _ [71, 1, 3, 64, 65, 66, 10, 67, 7, 8, 9, 11, 2, 12, 13, 14, 15, 16, 5, 17, 18, 19, 20, 21, 22, 23, 24, 25, 26, 27, 28, 6, 166, 167, 168, 169, 170, 171] (by decide +kernel) (by decide +kernel)
set_option maxRecDepth 20000 in
theorem gX3_isSame_X3_pays : GoodIn wsX3_isSame (wsV RX3 60 RX3 yX3_pays wsX3_pays) := goodIn_app (goodIn_of _ (by decide +kernel)) ggX3_isSame_X3_pays
set_option maxRecDepth 20000 in
theorem ggX3_isSame_X3_profit : GoodIn wsX3_isSame wsX3_profit := goodIn_r _ [75, 3, 64, 65, 66, 10, 67, 7, 8, 9, 11, 1, 2, 12, 13, 14, 15, 16, 5, 17, 18, 19, 20, 21, 22, 23, 24, 25, 26, 27, 28, 6, 68, 69, 70, 71, 166, 167, 168, 169, 170, 171] (by decide +kernel) (by decide +kernel)
set_option maxRecDepth 20000 in
theorem gX3_isSame_X3_profit : GoodIn wsX3_isSame (wsV RX3 69 RX3 yX3_profit wsX3_profit) := goodIn_app (goodIn_of _ (by decide +kernel)) ggX3_isSame_X3_profit
set_option maxRecDepth 20000 in
theorem ggX3_isSame_X2_about : GoodIn wsX3_isSame wsX2_about := goodIn_ca (goodIn_r _ [79, 58, 40, 80, 81, 82, 32, 83, 45, 46, 84, 48, 49, 50, 51, 52, 53, 85, 86, 87, 88, 47, 34, 38, 89, 90, 91, 92, 37, 172, 173, 174, 175, 176, 177, 178, 179, 180, 181, 182, 183, 184, 185, 186, 187, 188, 189] (by decide +kernel) (by decide +kernel)) (goodIn_sub (fun _ h => List.mem_cons_of_mem _ (List.mem_append_right _ h)) (by decide +kernel))
set_option maxRecDepth 20000 in
theorem gX3_isSame_X2_about : GoodIn wsX3_isSame (wsV RX3 72 RX2 yX2_about wsX2_about) := goodIn_app (goodIn_of _ (by decide +kernel)) ggX3_isSame_X2_about
set_option maxRecDepth 20000 in
theorem ggX3_isSame_X2_land : GoodIn wsX3_isSame wsX2_land := goodIn_ca (goodIn_r _ [96, 97, 98, 99, 100, 32, 101, 45, 46, 102, 48, 49, 50, 103, 104, 105, 106, 47, 40, 35, 59, 60, 61, 62, 63, 107, 108, 109, 110, 111, 112, 113, 34, 114, 115, 116, 117, 54, 55, 56, 57, 38, 58, 39, 172, 173, 174, 175, 176, 177, 178, 179, 180, 181, 182, 183, 184, 185, 186, 187, 188, 189, 190, 191] (by decide +kernel) (by decide +kernel)) (goodIn_sub (fun _ h => List.mem_cons_of_mem _ (List.mem_append_right _ h)) (by decide +kernel))
set_option maxRecDepth 20000 in
theorem gX3_isSame_X2_land : GoodIn wsX3_isSame (wsV RX3 75 RX2 yX2_land wsX2_land) := goodIn_app (goodIn_of _ (by decide +kernel)) ggX3_isSame_X2_land
set_option maxRecDepth 20000 in
theorem ggX3_isSame_X3_alone : GoodIn wsX3_isSame wsX3_alone := goodIn_r _ [121, 3, 4, 6, 17, 18, 19, 10, 20, 5, 21, 22, 23, 24, 25, 26, 27, 28, 166, 167, 168, 169, 170, 171] (by decide +kernel) (by decide +kernel)
set_option maxRecDepth 20000 in
theorem gX3_isSame_X3_alone : GoodIn wsX3_isSame (wsV RX3 78 RX3 yX3_alone wsX3_alone) := goodIn_app (goodIn_of _ (by decide +kernel)) ggX3_isSame_X3_alone
set_option maxRecDepth 20000 in
theorem ggX3_isSame_X2_alone : GoodIn wsX3_isSame wsX2_alone := goodIn_ca (goodIn_r _ [125, 34, 98, 99, 100, 32, 101, 45, 46, 102, 48, 49, 50, 126, 127, 128, 129, 47, 35, 36, 54, 55, 56, 57, 38, 58, 39, 130, 131, 132, 133, 97, 172, 173, 174, 175, 176, 177, 178, 179, 180, 181, 182, 183, 184, 185] (by decide +kernel) (by decide +kernel)) (goodIn_sub (fun _ h => List.mem_cons_of_mem _ (List.mem_append_right _ h)) (by decide +kernel))
set_option maxRecDepth 20000 in
theorem gX3_isSame_X2_alone : GoodIn wsX3_isSame (wsV RX3 82 RX2 yX2_alone wsX2_alone) := goodIn_app (goodIn_of _ (by decide +kernel)) ggX3_isSame_X2_alone
set_option maxRecDepth 20000 in
theorem ggX3_isSame_X2_count : GoodIn wsX3_isSame wsX2_count := goodIn_ca (goodIn_r _ [137, 102, 84, 47, 40, 48, 49, 32, 50, 45, 46, 138, 139, 140, 141, 142, 143, 144, 145, 146, 147, 148, 35, 59, 60, 61, 62, 63, 149, 150, 151, 152, 153, 154, 155, 156, 157, 89, 90, 91, 92, 37, 158, 159, 160, 161, 36, 172, 173, 174, 175, 176, 177, 178, 179, 180, 181, 182, 183, 184, 185, 186, 187, 188, 189, 190, 191] (by decide +kernel) (by decide +kernel)) (goodIn_sub (fun _ h => List.mem_cons_of_mem _ (List.mem_append_right _ h)) (by decide +kernel))
set_option maxRecDepth 20000 in
theorem gX3_isSame_X2_count : GoodIn wsX3_isSame (wsV RX3 84 RX2 yX2_count wsX2_count) := goodIn_app (goodIn_of _ (by decide +kernel)) ggX3_isSame_X2_count
set_option maxRecDepth 20000 in
theorem ggX3_isSame_X2_mean : GoodIn wsX3_isSame wsX2_mean := goodIn_r _ [165, 40, 138, 139, 140, 141, 142, 143, 144, 149, 150, 151, 152, 153, 172, 173, 174, 175, 176, 177, 178, 179, 180, 181, 182, 183, 184, 185, 186, 187, 188, 189, 190, 191] (by decide +kernel) (by decide +kernel)
set_option maxRecDepth 20000 in
theorem gX3_isSame_X2_mean : GoodIn wsX3_isSame (wsV RX3 87 RX2 yX2_mean wsX2_mean) := goodIn_app (goodIn_of _ (by decide +kernel)) ggX3_isSame_X2_mean
theorem dX3_isSame_0 : decode cX3_isSame 0 = .ok (.aload_n 0, 1) := by decide +kernel
theorem dX3_isSame_1 : decode cX3_isSame 1 = .ok (.iconst (-1), 1) := by decide +kernel
theorem dX3_isSame_2 : decode cX3_isSame 2 = .ok (.invokevirtual 54, 3) := by decide +kernel
theorem dX3_isSame_5 : decode cX3_isSame 5 = .ok (.istore_n 2, 1) := by decide +kernel
theorem dX3_isSame_6 : decode cX3_isSame 6 = .ok (.aload_n 0, 1) := by decide +kernel
theorem dX3_isSame_7 : decode cX3_isSame 7 = .ok (.getfield 36, 3) := by decide +kernel
theorem dX3_isSame_10 : decode cX3_isSame 10 = .ok (.istore_n 3, 1) := by decide +kernel
theorem dX3_isSame_11 : decode cX3_isSame 11 = .ok (.aload_n 0, 1) := by decide +kernel
theorem dX3_isSame_12 : decode cX3_isSame 12 = .ok (.getfield 40, 3) := by decide +kernel
theorem dX3_isSame_15 : decode cX3_isSame 15 = .ok (.istore 4, 2) := by decide +kernel
theorem dX3_isSame_17 : decode cX3_isSame 17 = .ok (.iconst 0, 1) := by decide +kernel
theorem dX3_isSame_18 : decode cX3_isSame 18 = .ok (.istore 5, 2) := by decide +kernel
theorem dX3_isSame_20 : decode cX3_isSame 20 = .ok (.iconst 0, 1) := by decide +kernel
theorem dX3_isSame_21 : decode cX3_isSame 21 = .ok (.istore 6, 2) := by decide +kernel
theorem dX3_isSame_23 : decode cX3_isSame 23 = .ok (.iconst 0, 1) := by decide +kernel
theorem dX3_isSame_24 : decode cX3_isSame 24 = .ok (.istore 7, 2) := by decide +kernel
theorem dX3_isSame_26 : decode cX3_isSame 26 = .ok (.iload 7, 2) := by decide +kernel
theorem dX3_isSame_28 : decode cX3_isSame 28 = .ok (.aload_n 0, 1) := by decide +kernel
theorem dX3_isSame_29 : decode cX3_isSame 29 = .ok (.getfield 18, 3) := by decide +kernel
theorem dX3_isSame_32 : decode cX3_isSame 32 = .ok (.arraylength, 1) := by decide +kernel
theorem dX3_isSame_33 : decode cX3_isSame 33 = .ok (.if_icmp .ge 184, 3) := by decide +kernel
theorem dX3_isSame_36 : decode cX3_isSame 36 = .ok (.bipush 8, 2) := by decide +kernel
theorem dX3_isSame_38 : decode cX3_isSame 38 = .ok (.newarray .int, 2) := by decide +kernel
theorem dX3_isSame_40 : decode cX3_isSame 40 = .ok (.dup, 1) := by decide +kernel
theorem dX3_isSame_41 : decode cX3_isSame 41 = .ok (.iconst 0, 1) := by decide +kernel
theorem dX3_isSame_42 : decode cX3_isSame 42 = .ok (.aload_n 0, 1) := by decide +kernel
theorem dX3_isSame_43 : decode cX3_isSame 43 = .ok (.getfield 18, 3) := by decide +kernel
theorem dX3_isSame_46 : decode cX3_isSame 46 = .ok (.iload 7, 2) := by decide +kernel
theorem dX3_isSame_48 : decode cX3_isSame 48 = .ok (.aaload, 1) := by decide +kernel
theorem dX3_isSame_49 : decode cX3_isSame 49 = .ok (.iconst 0, 1) := by decide +kernel
theorem dX3_isSame_50 : decode cX3_isSame 50 = .ok (.iaload, 1) := by decide +kernel
theorem dX3_isSame_51 : decode cX3_isSame 51 = .ok (.iastore, 1) := by decide +kernel
theorem dX3_isSame_52 : decode cX3_isSame 52 = .ok (.dup, 1) := by decide +kernel
theorem dX3_isSame_53 : decode cX3_isSame 53 = .ok (.iconst 1, 1) := by decide +kernel
theorem dX3_isSame_54 : decode cX3_isSame 54 = .ok (.aload_n 0, 1) := by decide +kernel
theorem dX3_isSame_55 : decode cX3_isSame 55 = .ok (.getfield 18, 3) := by decide +kernel
theorem dX3_isSame_58 : decode cX3_isSame 58 = .ok (.iload 7, 2) := by decide +kernel
theorem dX3_isSame_60 : decode cX3_isSame 60 = .ok (.aaload, 1) := by decide +kernel
theorem dX3_isSame_61 : decode cX3_isSame 61 = .ok (.iconst 1, 1) := by decide +kernel
theorem dX3_isSame_62 : decode cX3_isSame 62 = .ok (.iaload, 1) := by decide +kernel
theorem dX3_isSame_63 : decode cX3_isSame 63 = .ok (.iastore, 1) := by decide +kernel
theorem dX3_isSame_64 : decode cX3_isSame 64 = .ok (.dup, 1) := by decide +kernel
theorem dX3_isSame_65 : decode cX3_isSame 65 = .ok (.iconst 2, 1) := by decide +kernel
theorem dX3_isSame_66 : decode cX3_isSame 66 = .ok (.aload_n 0, 1) := by decide +kernel
theorem dX3_isSame_67 : decode cX3_isSame 67 = .ok (.getfield 18, 3) := by decide +kernel
theorem dX3_isSame_70 : decode cX3_isSame 70 = .ok (.iload 7, 2) := by decide +kernel
theorem dX3_isSame_72 : decode cX3_isSame 72 = .ok (.aaload, 1) := by decide +kernel
theorem dX3_isSame_73 : decode cX3_isSame 73 = .ok (.iconst 2, 1) := by decide +kernel
theorem dX3_isSame_74 : decode cX3_isSame 74 = .ok (.iaload, 1) := by decide +kernel
theorem dX3_isSame_75 : decode cX3_isSame 75 = .ok (.iastore, 1) := by decide +kernel
theorem dX3_isSame_76 : decode cX3_isSame 76 = .ok (.dup, 1) := by decide +kernel
theorem dX3_isSame_77 : decode cX3_isSame 77 = .ok (.iconst 3, 1) := by decide +kernel
theorem dX3_isSame_78 : decode cX3_isSame 78 = .ok (.aload_n 0, 1) := by decide +kernel
theorem dX3_isSame_79 : decode cX3_isSame 79 = .ok (.getfield 18, 3) := by decide +kernel
theorem dX3_isSame_82 : decode cX3_isSame 82 = .ok (.iload 7, 2) := by decide +kernel
theorem dX3_isSame_84 : decode cX3_isSame 84 = .ok (.aaload, 1) := by decide +kernel
theorem dX3_isSame_85 : decode cX3_isSame 85 = .ok (.iconst 3, 1) := by decide +kernel
theorem dX3_isSame_86 : decode cX3_isSame 86 = .ok (.iaload, 1) := by decide +kernel
theorem dX3_isSame_87 : decode cX3_isSame 87 = .ok (.iastore, 1) := by decide +kernel
theorem dX3_isSame_88 : decode cX3_isSame 88 = .ok (.dup, 1) := by decide +kernel
theorem dX3_isSame_89 : decode cX3_isSame 89 = .ok (.iconst 4, 1) := by decide +kernel
theorem dX3_isSame_90 : decode cX3_isSame 90 = .ok (.aload_n 0, 1) := by decide +kernel
theorem dX3_isSame_91 : decode cX3_isSame 91 = .ok (.getfield 18, 3) := by decide +kernel
theorem dX3_isSame_94 : decode cX3_isSame 94 = .ok (.iload 7, 2) := by decide +kernel
theorem dX3_isSame_96 : decode cX3_isSame 96 = .ok (.aaload, 1) := by decide +kernel
theorem dX3_isSame_97 : decode cX3_isSame 97 = .ok (.iconst 4, 1) := by decide +kernel
theorem dX3_isSame_98 : decode cX3_isSame 98 = .ok (.iaload, 1) := by decide +kernel
theorem dX3_isSame_99 : decode cX3_isSame 99 = .ok (.iastore, 1) := by decide +kernel
theorem dX3_isSame_100 : decode cX3_isSame 100 = .ok (.dup, 1) := by decide +kernel
theorem dX3_isSame_101 : decode cX3_isSame 101 = .ok (.iconst 5, 1) := by decide +kernel
theorem dX3_isSame_102 : decode cX3_isSame 102 = .ok (.aload_n 0, 1) := by decide +kernel
theorem dX3_isSame_103 : decode cX3_isSame 103 = .ok (.iload 7, 2) := by decide +kernel
theorem dX3_isSame_105 : decode cX3_isSame 105 = .ok (.invokevirtual 33, 3) := by decide +kernel
theorem dX3_isSame_108 : decode cX3_isSame 108 = .ok (.iastore, 1) := by decide +kernel
theorem dX3_isSame_109 : decode cX3_isSame 109 = .ok (.dup, 1) := by decide +kernel
theorem dX3_isSame_110 : decode cX3_isSame 110 = .ok (.bipush 6, 2) := by decide +kernel
theorem dX3_isSame_112 : decode cX3_isSame 112 = .ok (.aload_n 0, 1) := by decide +kernel
theorem dX3_isSame_113 : decode cX3_isSame 113 = .ok (.iload 7, 2) := by decide +kernel
theorem dX3_isSame_115 : decode cX3_isSame 115 = .ok (.invokevirtual 50, 3) := by decide +kernel
theorem dX3_isSame_118 : decode cX3_isSame 118 = .ok (.ifCond .eq 7, 3) := by decide +kernel
theorem dX3_isSame_121 : decode cX3_isSame 121 = .ok (.iconst 1, 1) := by decide +kernel
theorem dX3_isSame_122 : decode cX3_isSame 122 = .ok (.goto 4, 3) := by decide +kernel
theorem dX3_isSame_125 : decode cX3_isSame 125 = .ok (.iconst 0, 1) := by decide +kernel
theorem dX3_isSame_126 : decode cX3_isSame 126 = .ok (.iastore, 1) := by decide +kernel
theorem dX3_isSame_127 : decode cX3_isSame 127 = .ok (.dup, 1) := by decide +kernel
theorem dX3_isSame_128 : decode cX3_isSame 128 = .ok (.bipush 7, 2) := by decide +kernel
theorem dX3_isSame_130 : decode cX3_isSame 130 = .ok (.iload_n 2, 1) := by decide +kernel
theorem dX3_isSame_131 : decode cX3_isSame 131 = .ok (.iload 7, 2) := by decide +kernel
theorem dX3_isSame_133 : decode cX3_isSame 133 = .ok (.ishr, 1) := by decide +kernel
theorem dX3_isSame_134 : decode cX3_isSame 134 = .ok (.iconst 2, 1) := by decide +kernel
theorem dX3_isSame_135 : decode cX3_isSame 135 = .ok (.irem, 1) := by decide +kernel
theorem dX3_isSame_136 : decode cX3_isSame 136 = .ok (.iastore, 1) := by decide +kernel
theorem dX3_isSame_137 : decode cX3_isSame 137 = .ok (.astore 8, 2) := by decide +kernel
theorem dX3_isSame_139 : decode cX3_isSame 139 = .ok (.iconst 0, 1) := by decide +kernel
theorem dX3_isSame_140 : decode cX3_isSame 140 = .ok (.istore 9, 2) := by decide +kernel
theorem dX3_isSame_142 : decode cX3_isSame 142 = .ok (.iload 9, 2) := by decide +kernel
theorem dX3_isSame_144 : decode cX3_isSame 144 = .ok (.bipush 8, 2) := by decide +kernel
theorem dX3_isSame_146 : decode cX3_isSame 146 = .ok (.if_icmp .ge 27, 3) := by decide +kernel
theorem dX3_isSame_149 : decode cX3_isSame 149 = .ok (.aload_n 1, 1) := by decide +kernel
theorem dX3_isSame_150 : decode cX3_isSame 150 = .ok (.iload 7, 2) := by decide +kernel
theorem dX3_isSame_152 : decode cX3_isSame 152 = .ok (.iload 9, 2) := by decide +kernel
theorem dX3_isSame_154 : decode cX3_isSame 154 = .ok (.invokevirtual 63, 3) := by decide +kernel
theorem dX3_isSame_157 : decode cX3_isSame 157 = .ok (.aload 8, 2) := by decide +kernel
theorem dX3_isSame_159 : decode cX3_isSame 159 = .ok (.iload 9, 2) := by decide +kernel
theorem dX3_isSame_161 : decode cX3_isSame 161 = .ok (.iaload, 1) := by decide +kernel
theorem dX3_isSame_162 : decode cX3_isSame 162 = .ok (.if_icmp .eq 5, 3) := by decide +kernel
theorem dX3_isSame_165 : decode cX3_isSame 165 = .ok (.iconst 0, 1) := by decide +kernel
theorem dX3_isSame_166 : decode cX3_isSame 166 = .ok (.ireturn, 1) := by decide +kernel
theorem dX3_isSame_167 : decode cX3_isSame 167 = .ok (.iinc 9 1, 3) := by decide +kernel
theorem dX3_isSame_170 : decode cX3_isSame 170 = .ok (.goto (-28), 3) := by decide +kernel
theorem dX3_isSame_173 : decode cX3_isSame 173 = .ok (.iload_n 2, 1) := by decide +kernel
theorem dX3_isSame_174 : decode cX3_isSame 174 = .ok (.iload 7, 2) := by decide +kernel
theorem dX3_isSame_176 : decode cX3_isSame 176 = .ok (.ishr, 1) := by decide +kernel
theorem dX3_isSame_177 : decode cX3_isSame 177 = .ok (.iconst 2, 1) := by decide +kernel
theorem dX3_isSame_178 : decode cX3_isSame 178 = .ok (.irem, 1) := by decide +kernel
theorem dX3_isSame_179 : decode cX3_isSame 179 = .ok (.iconst 1, 1) := by decide +kernel
theorem dX3_isSame_180 : decode cX3_isSame 180 = .ok (.if_icmp .ne 31, 3) := by decide +kernel
theorem dX3_isSame_183 : decode cX3_isSame 183 = .ok (.iload 5, 2) := by decide +kernel
theorem dX3_isSame_185 : decode cX3_isSame 185 = .ok (.aload_n 0, 1) := by decide +kernel
theorem dX3_isSame_186 : decode cX3_isSame 186 = .ok (.getfield 18, 3) := by decide +kernel
theorem dX3_isSame_189 : decode cX3_isSame 189 = .ok (.iload 7, 2) := by decide +kernel
theorem dX3_isSame_191 : decode cX3_isSame 191 = .ok (.aaload, 1) := by decide +kernel
theorem dX3_isSame_192 : decode cX3_isSame 192 = .ok (.iconst 1, 1) := by decide +kernel
theorem dX3_isSame_193 : decode cX3_isSame 193 = .ok (.iaload, 1) := by decide +kernel
theorem dX3_isSame_194 : decode cX3_isSame 194 = .ok (.ior, 1) := by decide +kernel
theorem dX3_isSame_195 : decode cX3_isSame 195 = .ok (.istore 5, 2) := by decide +kernel
theorem dX3_isSame_197 : decode cX3_isSame 197 = .ok (.iload 6, 2) := by decide +kernel
theorem dX3_isSame_199 : decode cX3_isSame 199 = .ok (.aload_n 0, 1) := by decide +kernel
theorem dX3_isSame_200 : decode cX3_isSame 200 = .ok (.getfield 18, 3) := by decide +kernel
theorem dX3_isSame_203 : decode cX3_isSame 203 = .ok (.iload 7, 2) := by decide +kernel
theorem dX3_isSame_205 : decode cX3_isSame 205 = .ok (.aaload, 1) := by decide +kernel
theorem dX3_isSame_206 : decode cX3_isSame 206 = .ok (.iconst 2, 1) := by decide +kernel
theorem dX3_isSame_207 : decode cX3_isSame 207 = .ok (.iaload, 1) := by decide +kernel
theorem dX3_isSame_208 : decode cX3_isSame 208 = .ok (.iadd, 1) := by decide +kernel
theorem dX3_isSame_209 : decode cX3_isSame 209 = .ok (.istore 6, 2) := by decide +kernel
theorem dX3_isSame_211 : decode cX3_isSame 211 = .ok (.iinc 7 1, 3) := by decide +kernel
theorem dX3_isSame_214 : decode cX3_isSame 214 = .ok (.goto (-188), 3) := by decide +kernel
theorem dX3_isSame_217 : decode cX3_isSame 217 = .ok (.iconst 0, 1) := by decide +kernel
theorem dX3_isSame_218 : decode cX3_isSame 218 = .ok (.istore 7, 2) := by decide +kernel
theorem dX3_isSame_220 : decode cX3_isSame 220 = .ok (.iconst 0, 1) := by decide +kernel
theorem dX3_isSame_221 : decode cX3_isSame 221 = .ok (.istore 8, 2) := by decide +kernel
theorem dX3_isSame_223 : decode cX3_isSame 223 = .ok (.iconst 0, 1) := by decide +kernel
theorem dX3_isSame_224 : decode cX3_isSame 224 = .ok (.istore 9, 2) := by decide +kernel
theorem dX3_isSame_226 : decode cX3_isSame 226 = .ok (.iload 9, 2) := by decide +kernel
theorem dX3_isSame_228 : decode cX3_isSame 228 = .ok (.aload_n 0, 1) := by decide +kernel
theorem dX3_isSame_229 : decode cX3_isSame 229 = .ok (.getfield 13, 3) := by decide +kernel
theorem dX3_isSame_232 : decode cX3_isSame 232 = .ok (.arraylength, 1) := by decide +kernel
theorem dX3_isSame_233 : decode cX3_isSame 233 = .ok (.if_icmp .ge 199, 3) := by decide +kernel
theorem dX3_isSame_236 : decode cX3_isSame 236 = .ok (.iconst 0, 1) := by decide +kernel
theorem dX3_isSame_237 : decode cX3_isSame 237 = .ok (.istore 10, 2) := by decide +kernel
theorem dX3_isSame_239 : decode cX3_isSame 239 = .ok (.aload_n 0, 1) := by decide +kernel
theorem dX3_isSame_240 : decode cX3_isSame 240 = .ok (.getfield 18, 3) := by decide +kernel
theorem dX3_isSame_243 : decode cX3_isSame 243 = .ok (.astore 11, 2) := by decide +kernel
theorem dX3_isSame_245 : decode cX3_isSame 245 = .ok (.aload 11, 2) := by decide +kernel
theorem dX3_isSame_247 : decode cX3_isSame 247 = .ok (.arraylength, 1) := by decide +kernel
theorem dX3_isSame_248 : decode cX3_isSame 248 = .ok (.istore 12, 2) := by decide +kernel
theorem dX3_isSame_250 : decode cX3_isSame 250 = .ok (.iconst 0, 1) := by decide +kernel
theorem dX3_isSame_251 : decode cX3_isSame 251 = .ok (.istore 13, 2) := by decide +kernel
theorem dX3_isSame_253 : decode cX3_isSame 253 = .ok (.iload 13, 2) := by decide +kernel
theorem dX3_isSame_255 : decode cX3_isSame 255 = .ok (.iload 12, 2) := by decide +kernel
theorem dX3_isSame_257 : decode cX3_isSame 257 = .ok (.if_icmp .ge 40, 3) := by decide +kernel
theorem dX3_isSame_260 : decode cX3_isSame 260 = .ok (.aload 11, 2) := by decide +kernel
theorem dX3_isSame_262 : decode cX3_isSame 262 = .ok (.iload 13, 2) := by decide +kernel
theorem dX3_isSame_264 : decode cX3_isSame 264 = .ok (.aaload, 1) := by decide +kernel
theorem dX3_isSame_265 : decode cX3_isSame 265 = .ok (.astore 14, 2) := by decide +kernel
theorem dX3_isSame_267 : decode cX3_isSame 267 = .ok (.iload 10, 2) := by decide +kernel
theorem dX3_isSame_269 : decode cX3_isSame 269 = .ok (.aload 14, 2) := by decide +kernel
theorem dX3_isSame_271 : decode cX3_isSame 271 = .ok (.iconst 0, 1) := by decide +kernel
theorem dX3_isSame_272 : decode cX3_isSame 272 = .ok (.iaload, 1) := by decide +kernel
theorem dX3_isSame_273 : decode cX3_isSame 273 = .ok (.iload 9, 2) := by decide +kernel
theorem dX3_isSame_275 : decode cX3_isSame 275 = .ok (.if_icmp .ne 12, 3) := by decide +kernel
theorem dX3_isSame_278 : decode cX3_isSame 278 = .ok (.iconst 1, 1) := by decide +kernel
theorem dX3_isSame_279 : decode cX3_isSame 279 = .ok (.aload 14, 2) := by decide +kernel
theorem dX3_isSame_281 : decode cX3_isSame 281 = .ok (.iconst 4, 1) := by decide +kernel
theorem dX3_isSame_282 : decode cX3_isSame 282 = .ok (.iaload, 1) := by decide +kernel
theorem dX3_isSame_283 : decode cX3_isSame 283 = .ok (.isub, 1) := by decide +kernel
theorem dX3_isSame_284 : decode cX3_isSame 284 = .ok (.goto 4, 3) := by decide +kernel
theorem dX3_isSame_287 : decode cX3_isSame 287 = .ok (.iconst 0, 1) := by decide +kernel
theorem dX3_isSame_288 : decode cX3_isSame 288 = .ok (.iadd, 1) := by decide +kernel
theorem dX3_isSame_289 : decode cX3_isSame 289 = .ok (.istore 10, 2) := by decide +kernel
theorem dX3_isSame_291 : decode cX3_isSame 291 = .ok (.iinc 13 1, 3) := by decide +kernel
theorem dX3_isSame_294 : decode cX3_isSame 294 = .ok (.goto (-41), 3) := by decide +kernel
theorem dX3_isSame_297 : decode cX3_isSame 297 = .ok (.iconst 0, 1) := by decide +kernel
theorem dX3_isSame_298 : decode cX3_isSame 298 = .ok (.istore 11, 2) := by decide +kernel
theorem dX3_isSame_300 : decode cX3_isSame 300 = .ok (.aload_n 0, 1) := by decide +kernel
theorem dX3_isSame_301 : decode cX3_isSame 301 = .ok (.iload 9, 2) := by decide +kernel
theorem dX3_isSame_303 : decode cX3_isSame 303 = .ok (.invokevirtual 54, 3) := by decide +kernel
theorem dX3_isSame_306 : decode cX3_isSame 306 = .ok (.pop, 1) := by decide +kernel
theorem dX3_isSame_307 : decode cX3_isSame 307 = .ok (.aload_n 0, 1) := by decide +kernel
theorem dX3_isSame_308 : decode cX3_isSame 308 = .ok (.getfield 36, 3) := by decide +kernel
theorem dX3_isSame_311 : decode cX3_isSame 311 = .ok (.istore 11, 2) := by decide +kernel
theorem dX3_isSame_313 : decode cX3_isSame 313 = .ok (.bipush 6, 2) := by decide +kernel
theorem dX3_isSame_315 : decode cX3_isSame 315 = .ok (.newarray .int, 2) := by decide +kernel
theorem dX3_isSame_317 : decode cX3_isSame 317 = .ok (.dup, 1) := by decide +kernel
theorem dX3_isSame_318 : decode cX3_isSame 318 = .ok (.iconst 0, 1) := by decide +kernel
theorem dX3_isSame_319 : decode cX3_isSame 319 = .ok (.aload_n 0, 1) := by decide +kernel
theorem dX3_isSame_320 : decode cX3_isSame 320 = .ok (.getfield 13, 3) := by decide +kernel
theorem dX3_isSame_323 : decode cX3_isSame 323 = .ok (.iload 9, 2) := by decide +kernel
theorem dX3_isSame_325 : decode cX3_isSame 325 = .ok (.baload, 1) := by decide +kernel
theorem dX3_isSame_326 : decode cX3_isSame 326 = .ok (.ifCond .eq 7, 3) := by decide +kernel
theorem dX3_isSame_329 : decode cX3_isSame 329 = .ok (.iconst 1, 1) := by decide +kernel
theorem dX3_isSame_330 : decode cX3_isSame 330 = .ok (.goto 4, 3) := by decide +kernel
theorem dX3_isSame_333 : decode cX3_isSame 333 = .ok (.iconst 0, 1) := by decide +kernel
theorem dX3_isSame_334 : decode cX3_isSame 334 = .ok (.iastore, 1) := by decide +kernel
theorem dX3_isSame_335 : decode cX3_isSame 335 = .ok (.dup, 1) := by decide +kernel
theorem dX3_isSame_336 : decode cX3_isSame 336 = .ok (.iconst 1, 1) := by decide +kernel
theorem dX3_isSame_337 : decode cX3_isSame 337 = .ok (.iload 10, 2) := by decide +kernel
theorem dX3_isSame_339 : decode cX3_isSame 339 = .ok (.iastore, 1) := by decide +kernel
theorem dX3_isSame_340 : decode cX3_isSame 340 = .ok (.dup, 1) := by decide +kernel
theorem dX3_isSame_341 : decode cX3_isSame 341 = .ok (.iconst 2, 1) := by decide +kernel
theorem dX3_isSame_342 : decode cX3_isSame 342 = .ok (.aload_n 0, 1) := by decide +kernel
theorem dX3_isSame_343 : decode cX3_isSame 343 = .ok (.iload 9, 2) := by decide +kernel
theorem dX3_isSame_345 : decode cX3_isSame 345 = .ok (.invokevirtual 57, 3) := by decide +kernel
theorem dX3_isSame_348 : decode cX3_isSame 348 = .ok (.iastore, 1) := by decide +kernel
theorem dX3_isSame_349 : decode cX3_isSame 349 = .ok (.dup, 1) := by decide +kernel
theorem dX3_isSame_350 : decode cX3_isSame 350 = .ok (.iconst 3, 1) := by decide +kernel
theorem dX3_isSame_351 : decode cX3_isSame 351 = .ok (.aload_n 0, 1) := by decide +kernel
theorem dX3_isSame_352 : decode cX3_isSame 352 = .ok (.iload 9, 2) := by decide +kernel
theorem dX3_isSame_354 : decode cX3_isSame 354 = .ok (.invokevirtual 60, 3) := by decide +kernel
theorem dX3_isSame_357 : decode cX3_isSame 357 = .ok (.iastore, 1) := by decide +kernel
theorem dX3_isSame_358 : decode cX3_isSame 358 = .ok (.dup, 1) := by decide +kernel
theorem dX3_isSame_359 : decode cX3_isSame 359 = .ok (.iconst 4, 1) := by decide +kernel
theorem dX3_isSame_360 : decode cX3_isSame 360 = .ok (.aload_n 0, 1) := by decide +kernel
theorem dX3_isSame_361 : decode cX3_isSame 361 = .ok (.iload 9, 2) := by decide +kernel
theorem dX3_isSame_363 : decode cX3_isSame 363 = .ok (.invokevirtual 69, 3) := by decide +kernel
theorem dX3_isSame_366 : decode cX3_isSame 366 = .ok (.iastore, 1) := by decide +kernel
theorem dX3_isSame_367 : decode cX3_isSame 367 = .ok (.dup, 1) := by decide +kernel
theorem dX3_isSame_368 : decode cX3_isSame 368 = .ok (.iconst 5, 1) := by decide +kernel
theorem dX3_isSame_369 : decode cX3_isSame 369 = .ok (.iload 11, 2) := by decide +kernel
theorem dX3_isSame_371 : decode cX3_isSame 371 = .ok (.iastore, 1) := by decide +kernel
theorem dX3_isSame_372 : decode cX3_isSame 372 = .ok (.astore 12, 2) := by decide +kernel
theorem dX3_isSame_374 : decode cX3_isSame 374 = .ok (.iconst 0, 1) := by decide +kernel
theorem dX3_isSame_375 : decode cX3_isSame 375 = .ok (.istore 13, 2) := by decide +kernel
theorem dX3_isSame_377 : decode cX3_isSame 377 = .ok (.iload 13, 2) := by decide +kernel
theorem dX3_isSame_379 : decode cX3_isSame 379 = .ok (.bipush 6, 2) := by decide +kernel
theorem dX3_isSame_381 : decode cX3_isSame 381 = .ok (.if_icmp .ge 27, 3) := by decide +kernel
theorem dX3_isSame_384 : decode cX3_isSame 384 = .ok (.aload_n 1, 1) := by decide +kernel
theorem dX3_isSame_385 : decode cX3_isSame 385 = .ok (.iload 9, 2) := by decide +kernel
theorem dX3_isSame_387 : decode cX3_isSame 387 = .ok (.iload 13, 2) := by decide +kernel
theorem dX3_isSame_389 : decode cX3_isSame 389 = .ok (.invokevirtual 72, 3) := by decide +kernel
theorem dX3_isSame_392 : decode cX3_isSame 392 = .ok (.aload 12, 2) := by decide +kernel
theorem dX3_isSame_394 : decode cX3_isSame 394 = .ok (.iload 13, 2) := by decide +kernel
theorem dX3_isSame_396 : decode cX3_isSame 396 = .ok (.iaload, 1) := by decide +kernel
theorem dX3_isSame_397 : decode cX3_isSame 397 = .ok (.if_icmp .eq 5, 3) := by decide +kernel
theorem dX3_isSame_400 : decode cX3_isSame 400 = .ok (.iconst 0, 1) := by decide +kernel
theorem dX3_isSame_401 : decode cX3_isSame 401 = .ok (.ireturn, 1) := by decide +kernel
theorem dX3_isSame_402 : decode cX3_isSame 402 = .ok (.iinc 13 1, 3) := by decide +kernel
theorem dX3_isSame_405 : decode cX3_isSame 405 = .ok (.goto (-28), 3) := by decide +kernel
theorem dX3_isSame_408 : decode cX3_isSame 408 = .ok (.iload 7, 2) := by decide +kernel
theorem dX3_isSame_410 : decode cX3_isSame 410 = .ok (.aload 12, 2) := by decide +kernel
theorem dX3_isSame_412 : decode cX3_isSame 412 = .ok (.iconst 3, 1) := by decide +kernel
theorem dX3_isSame_413 : decode cX3_isSame 413 = .ok (.iaload, 1) := by decide +kernel
theorem dX3_isSame_414 : decode cX3_isSame 414 = .ok (.iadd, 1) := by decide +kernel
theorem dX3_isSame_415 : decode cX3_isSame 415 = .ok (.istore 7, 2) := by decide +kernel
theorem dX3_isSame_417 : decode cX3_isSame 417 = .ok (.iload 8, 2) := by decide +kernel
theorem dX3_isSame_419 : decode cX3_isSame 419 = .ok (.aload 12, 2) := by decide +kernel
theorem dX3_isSame_421 : decode cX3_isSame 421 = .ok (.iconst 4, 1) := by decide +kernel
theorem dX3_isSame_422 : decode cX3_isSame 422 = .ok (.iaload, 1) := by decide +kernel
theorem dX3_isSame_423 : decode cX3_isSame 423 = .ok (.iadd, 1) := by decide +kernel
theorem dX3_isSame_424 : decode cX3_isSame 424 = .ok (.istore 8, 2) := by decide +kernel
theorem dX3_isSame_426 : decode cX3_isSame 426 = .ok (.iinc 9 1, 3) := by decide +kernel
theorem dX3_isSame_429 : decode cX3_isSame 429 = .ok (.goto (-203), 3) := by decide +kernel
theorem dX3_isSame_432 : decode cX3_isSame 432 = .ok (.iconst 0, 1) := by decide +kernel
theorem dX3_isSame_433 : decode cX3_isSame 433 = .ok (.istore 9, 2) := by decide +kernel
theorem dX3_isSame_435 : decode cX3_isSame 435 = .ok (.iconst 0, 1) := by decide +kernel
theorem dX3_isSame_436 : decode cX3_isSame 436 = .ok (.istore 10, 2) := by decide +kernel
theorem dX3_isSame_438 : decode cX3_isSame 438 = .ok (.iload 10, 2) := by decide +kernel
theorem dX3_isSame_440 : decode cX3_isSame 440 = .ok (.aload_n 0, 1) := by decide +kernel
theorem dX3_isSame_441 : decode cX3_isSame 441 = .ok (.getfield 7, 3) := by decide +kernel
theorem dX3_isSame_444 : decode cX3_isSame 444 = .ok (.arraylength, 1) := by decide +kernel
theorem dX3_isSame_445 : decode cX3_isSame 445 = .ok (.if_icmp .ge 190, 3) := by decide +kernel
theorem dX3_isSame_448 : decode cX3_isSame 448 = .ok (.iconst (-1), 1) := by decide +kernel
theorem dX3_isSame_449 : decode cX3_isSame 449 = .ok (.istore 11, 2) := by decide +kernel
theorem dX3_isSame_451 : decode cX3_isSame 451 = .ok (.iconst 0, 1) := by decide +kernel
theorem dX3_isSame_452 : decode cX3_isSame 452 = .ok (.istore 12, 2) := by decide +kernel
theorem dX3_isSame_454 : decode cX3_isSame 454 = .ok (.iconst 0, 1) := by decide +kernel
theorem dX3_isSame_455 : decode cX3_isSame 455 = .ok (.istore 13, 2) := by decide +kernel
theorem dX3_isSame_457 : decode cX3_isSame 457 = .ok (.iload 13, 2) := by decide +kernel
theorem dX3_isSame_459 : decode cX3_isSame 459 = .ok (.aload_n 0, 1) := by decide +kernel
theorem dX3_isSame_460 : decode cX3_isSame 460 = .ok (.getfield 18, 3) := by decide +kernel
theorem dX3_isSame_463 : decode cX3_isSame 463 = .ok (.arraylength, 1) := by decide +kernel
theorem dX3_isSame_464 : decode cX3_isSame 464 = .ok (.if_icmp .ge 69, 3) := by decide +kernel
theorem dX3_isSame_467 : decode cX3_isSame 467 = .ok (.aload_n 0, 1) := by decide +kernel
theorem dX3_isSame_468 : decode cX3_isSame 468 = .ok (.getfield 18, 3) := by decide +kernel
theorem dX3_isSame_471 : decode cX3_isSame 471 = .ok (.iload 13, 2) := by decide +kernel
theorem dX3_isSame_473 : decode cX3_isSame 473 = .ok (.aaload, 1) := by decide +kernel
theorem dX3_isSame_474 : decode cX3_isSame 474 = .ok (.iconst 1, 1) := by decide +kernel
theorem dX3_isSame_475 : decode cX3_isSame 475 = .ok (.iaload, 1) := by decide +kernel
theorem dX3_isSame_476 : decode cX3_isSame 476 = .ok (.iload 10, 2) := by decide +kernel
theorem dX3_isSame_478 : decode cX3_isSame 478 = .ok (.ishr, 1) := by decide +kernel
theorem dX3_isSame_479 : decode cX3_isSame 479 = .ok (.iconst 2, 1) := by decide +kernel
theorem dX3_isSame_480 : decode cX3_isSame 480 = .ok (.irem, 1) := by decide +kernel
theorem dX3_isSame_481 : decode cX3_isSame 481 = .ok (.ifCond .ne 6, 3) := by decide +kernel
theorem dX3_isSame_484 : decode cX3_isSame 484 = .ok (.goto 43, 3) := by decide +kernel
theorem dX3_isSame_487 : decode cX3_isSame 487 = .ok (.iload_n 2, 1) := by decide +kernel
theorem dX3_isSame_488 : decode cX3_isSame 488 = .ok (.iload 13, 2) := by decide +kernel
theorem dX3_isSame_490 : decode cX3_isSame 490 = .ok (.ishr, 1) := by decide +kernel
theorem dX3_isSame_491 : decode cX3_isSame 491 = .ok (.iconst 2, 1) := by decide +kernel
theorem dX3_isSame_492 : decode cX3_isSame 492 = .ok (.irem, 1) := by decide +kernel
theorem dX3_isSame_493 : decode cX3_isSame 493 = .ok (.iconst 1, 1) := by decide +kernel
theorem dX3_isSame_494 : decode cX3_isSame 494 = .ok (.if_icmp .ne 14, 3) := by decide +kernel
theorem dX3_isSame_497 : decode cX3_isSame 497 = .ok (.aload_n 0, 1) := by decide +kernel
theorem dX3_isSame_498 : decode cX3_isSame 498 = .ok (.getfield 18, 3) := by decide +kernel
theorem dX3_isSame_501 : decode cX3_isSame 501 = .ok (.iload 13, 2) := by decide +kernel
theorem dX3_isSame_503 : decode cX3_isSame 503 = .ok (.aaload, 1) := by decide +kernel
theorem dX3_isSame_504 : decode cX3_isSame 504 = .ok (.iconst 0, 1) := by decide +kernel
theorem dX3_isSame_505 : decode cX3_isSame 505 = .ok (.iaload, 1) := by decide +kernel
theorem dX3_isSame_506 : decode cX3_isSame 506 = .ok (.istore 11, 2) := by decide +kernel
theorem dX3_isSame_508 : decode cX3_isSame 508 = .ok (.iload 12, 2) := by decide +kernel
theorem dX3_isSame_510 : decode cX3_isSame 510 = .ok (.aload_n 0, 1) := by decide +kernel
theorem dX3_isSame_511 : decode cX3_isSame 511 = .ok (.iload 13, 2) := by decide +kernel
theorem dX3_isSame_513 : decode cX3_isSame 513 = .ok (.invokevirtual 50, 3) := by decide +kernel
theorem dX3_isSame_516 : decode cX3_isSame 516 = .ok (.ifCond .eq 7, 3) := by decide +kernel
theorem dX3_isSame_519 : decode cX3_isSame 519 = .ok (.iconst 1, 1) := by decide +kernel
theorem dX3_isSame_520 : decode cX3_isSame 520 = .ok (.goto 4, 3) := by decide +kernel
theorem dX3_isSame_523 : decode cX3_isSame 523 = .ok (.iconst 0, 1) := by decide +kernel
theorem dX3_isSame_524 : decode cX3_isSame 524 = .ok (.iadd, 1) := by decide +kernel
theorem dX3_isSame_525 : decode cX3_isSame 525 = .ok (.istore 12, 2) := by decide +kernel
theorem dX3_isSame_527 : decode cX3_isSame 527 = .ok (.iinc 13 1, 3) := by decide +kernel
theorem dX3_isSame_530 : decode cX3_isSame 530 = .ok (.goto (-73), 3) := by decide +kernel
theorem dX3_isSame_533 : decode cX3_isSame 533 = .ok (.iload 9, 2) := by decide +kernel
theorem dX3_isSame_535 : decode cX3_isSame 535 = .ok (.iload 5, 2) := by decide +kernel
theorem dX3_isSame_537 : decode cX3_isSame 537 = .ok (.iload 10, 2) := by decide +kernel
theorem dX3_isSame_539 : decode cX3_isSame 539 = .ok (.ishr, 1) := by decide +kernel
theorem dX3_isSame_540 : decode cX3_isSame 540 = .ok (.iconst 2, 1) := by decide +kernel
theorem dX3_isSame_541 : decode cX3_isSame 541 = .ok (.irem, 1) := by decide +kernel
theorem dX3_isSame_542 : decode cX3_isSame 542 = .ok (.iadd, 1) := by decide +kernel
theorem dX3_isSame_543 : decode cX3_isSame 543 = .ok (.istore 9, 2) := by decide +kernel
theorem dX3_isSame_545 : decode cX3_isSame 545 = .ok (.aload_n 1, 1) := by decide +kernel
theorem dX3_isSame_546 : decode cX3_isSame 546 = .ok (.iload 10, 2) := by decide +kernel
theorem dX3_isSame_548 : decode cX3_isSame 548 = .ok (.iconst 0, 1) := by decide +kernel
theorem dX3_isSame_549 : decode cX3_isSame 549 = .ok (.invokevirtual 75, 3) := by decide +kernel
theorem dX3_isSame_552 : decode cX3_isSame 552 = .ok (.aload_n 0, 1) := by decide +kernel
theorem dX3_isSame_553 : decode cX3_isSame 553 = .ok (.getfield 7, 3) := by decide +kernel
theorem dX3_isSame_556 : decode cX3_isSame 556 = .ok (.iload 10, 2) := by decide +kernel
theorem dX3_isSame_558 : decode cX3_isSame 558 = .ok (.iaload, 1) := by decide +kernel
theorem dX3_isSame_559 : decode cX3_isSame 559 = .ok (.if_icmp .ne 27, 3) := by decide +kernel
theorem dX3_isSame_562 : decode cX3_isSame 562 = .ok (.aload_n 1, 1) := by decide +kernel
theorem dX3_isSame_563 : decode cX3_isSame 563 = .ok (.iload 10, 2) := by decide +kernel
theorem dX3_isSame_565 : decode cX3_isSame 565 = .ok (.iconst 1, 1) := by decide +kernel
theorem dX3_isSame_566 : decode cX3_isSame 566 = .ok (.invokevirtual 75, 3) := by decide +kernel
theorem dX3_isSame_569 : decode cX3_isSame 569 = .ok (.iload 11, 2) := by decide +kernel
theorem dX3_isSame_571 : decode cX3_isSame 571 = .ok (.if_icmp .ne 15, 3) := by decide +kernel
theorem dX3_isSame_574 : decode cX3_isSame 574 = .ok (.aload_n 1, 1) := by decide +kernel
theorem dX3_isSame_575 : decode cX3_isSame 575 = .ok (.iload 10, 2) := by decide +kernel
theorem dX3_isSame_577 : decode cX3_isSame 577 = .ok (.iconst 2, 1) := by decide +kernel
theorem dX3_isSame_578 : decode cX3_isSame 578 = .ok (.invokevirtual 75, 3) := by decide +kernel
theorem dX3_isSame_581 : decode cX3_isSame 581 = .ok (.iload 12, 2) := by decide +kernel
theorem dX3_isSame_583 : decode cX3_isSame 583 = .ok (.if_icmp .eq 5, 3) := by decide +kernel
theorem dX3_isSame_586 : decode cX3_isSame 586 = .ok (.iconst 0, 1) := by decide +kernel
theorem dX3_isSame_587 : decode cX3_isSame 587 = .ok (.ireturn, 1) := by decide +kernel
theorem dX3_isSame_588 : decode cX3_isSame 588 = .ok (.aload_n 0, 1) := by decide +kernel
theorem dX3_isSame_589 : decode cX3_isSame 589 = .ok (.iload 10, 2) := by decide +kernel
theorem dX3_isSame_591 : decode cX3_isSame 591 = .ok (.invokevirtual 78, 3) := by decide +kernel
theorem dX3_isSame_594 : decode cX3_isSame 594 = .ok (.astore 13, 2) := by decide +kernel
theorem dX3_isSame_596 : decode cX3_isSame 596 = .ok (.iconst 0, 1) := by decide +kernel
theorem dX3_isSame_597 : decode cX3_isSame 597 = .ok (.istore 14, 2) := by decide +kernel
theorem dX3_isSame_599 : decode cX3_isSame 599 = .ok (.iload 14, 2) := by decide +kernel
theorem dX3_isSame_601 : decode cX3_isSame 601 = .ok (.iconst 3, 1) := by decide +kernel
theorem dX3_isSame_602 : decode cX3_isSame 602 = .ok (.if_icmp .ge 27, 3) := by decide +kernel
theorem dX3_isSame_605 : decode cX3_isSame 605 = .ok (.aload_n 1, 1) := by decide +kernel
theorem dX3_isSame_606 : decode cX3_isSame 606 = .ok (.iload 10, 2) := by decide +kernel
theorem dX3_isSame_608 : decode cX3_isSame 608 = .ok (.iload 14, 2) := by decide +kernel
theorem dX3_isSame_610 : decode cX3_isSame 610 = .ok (.invokevirtual 82, 3) := by decide +kernel
theorem dX3_isSame_613 : decode cX3_isSame 613 = .ok (.aload 13, 2) := by decide +kernel
theorem dX3_isSame_615 : decode cX3_isSame 615 = .ok (.iload 14, 2) := by decide +kernel
theorem dX3_isSame_617 : decode cX3_isSame 617 = .ok (.iaload, 1) := by decide +kernel
theorem dX3_isSame_618 : decode cX3_isSame 618 = .ok (.if_icmp .eq 5, 3) := by decide +kernel
theorem dX3_isSame_621 : decode cX3_isSame 621 = .ok (.iconst 0, 1) := by decide +kernel
theorem dX3_isSame_622 : decode cX3_isSame 622 = .ok (.ireturn, 1) := by decide +kernel
theorem dX3_isSame_623 : decode cX3_isSame 623 = .ok (.iinc 14 1, 3) := by decide +kernel
theorem dX3_isSame_626 : decode cX3_isSame 626 = .ok (.goto (-27), 3) := by decide +kernel
theorem dX3_isSame_629 : decode cX3_isSame 629 = .ok (.iinc 10 1, 3) := by decide +kernel
theorem dX3_isSame_632 : decode cX3_isSame 632 = .ok (.goto (-194), 3) := by decide +kernel
theorem dX3_isSame_635 : decode cX3_isSame 635 = .ok (.bipush 9, 2) := by decide +kernel
theorem dX3_isSame_637 : decode cX3_isSame 637 = .ok (.newarray .int, 2) := by decide +kernel
theorem dX3_isSame_639 : decode cX3_isSame 639 = .ok (.dup, 1) := by decide +kernel
theorem dX3_isSame_640 : decode cX3_isSame 640 = .ok (.iconst 0, 1) := by decide +kernel
theorem dX3_isSame_641 : decode cX3_isSame 641 = .ok (.aload_n 0, 1) := by decide +kernel
theorem dX3_isSame_642 : decode cX3_isSame 642 = .ok (.getfield 7, 3) := by decide +kernel
theorem dX3_isSame_645 : decode cX3_isSame 645 = .ok (.arraylength, 1) := by decide +kernel
theorem dX3_isSame_646 : decode cX3_isSame 646 = .ok (.iastore, 1) := by decide +kernel
theorem dX3_isSame_647 : decode cX3_isSame 647 = .ok (.dup, 1) := by decide +kernel
theorem dX3_isSame_648 : decode cX3_isSame 648 = .ok (.iconst 1, 1) := by decide +kernel
theorem dX3_isSame_649 : decode cX3_isSame 649 = .ok (.aload_n 0, 1) := by decide +kernel
theorem dX3_isSame_650 : decode cX3_isSame 650 = .ok (.getfield 13, 3) := by decide +kernel
theorem dX3_isSame_653 : decode cX3_isSame 653 = .ok (.arraylength, 1) := by decide +kernel
theorem dX3_isSame_654 : decode cX3_isSame 654 = .ok (.iastore, 1) := by decide +kernel
theorem dX3_isSame_655 : decode cX3_isSame 655 = .ok (.dup, 1) := by decide +kernel
theorem dX3_isSame_656 : decode cX3_isSame 656 = .ok (.iconst 2, 1) := by decide +kernel
theorem dX3_isSame_657 : decode cX3_isSame 657 = .ok (.aload_n 0, 1) := by decide +kernel
theorem dX3_isSame_658 : decode cX3_isSame 658 = .ok (.getfield 18, 3) := by decide +kernel
theorem dX3_isSame_661 : decode cX3_isSame 661 = .ok (.arraylength, 1) := by decide +kernel
theorem dX3_isSame_662 : decode cX3_isSame 662 = .ok (.iastore, 1) := by decide +kernel
theorem dX3_isSame_663 : decode cX3_isSame 663 = .ok (.dup, 1) := by decide +kernel
theorem dX3_isSame_664 : decode cX3_isSame 664 = .ok (.iconst 3, 1) := by decide +kernel
theorem dX3_isSame_665 : decode cX3_isSame 665 = .ok (.iload_n 3, 1) := by decide +kernel
theorem dX3_isSame_666 : decode cX3_isSame 666 = .ok (.iastore, 1) := by decide +kernel
theorem dX3_isSame_667 : decode cX3_isSame 667 = .ok (.dup, 1) := by decide +kernel
theorem dX3_isSame_668 : decode cX3_isSame 668 = .ok (.iconst 4, 1) := by decide +kernel
theorem dX3_isSame_669 : decode cX3_isSame 669 = .ok (.iload 4, 2) := by decide +kernel
theorem dX3_isSame_671 : decode cX3_isSame 671 = .ok (.iastore, 1) := by decide +kernel
theorem dX3_isSame_672 : decode cX3_isSame 672 = .ok (.dup, 1) := by decide +kernel
theorem dX3_isSame_673 : decode cX3_isSame 673 = .ok (.iconst 5, 1) := by decide +kernel
theorem dX3_isSame_674 : decode cX3_isSame 674 = .ok (.iload 9, 2) := by decide +kernel
theorem dX3_isSame_676 : decode cX3_isSame 676 = .ok (.iastore, 1) := by decide +kernel
theorem dX3_isSame_677 : decode cX3_isSame 677 = .ok (.dup, 1) := by decide +kernel
theorem dX3_isSame_678 : decode cX3_isSame 678 = .ok (.bipush 6, 2) := by decide +kernel
theorem dX3_isSame_680 : decode cX3_isSame 680 = .ok (.iload 7, 2) := by decide +kernel
theorem dX3_isSame_682 : decode cX3_isSame 682 = .ok (.iastore, 1) := by decide +kernel
theorem dX3_isSame_683 : decode cX3_isSame 683 = .ok (.dup, 1) := by decide +kernel
theorem dX3_isSame_684 : decode cX3_isSame 684 = .ok (.bipush 7, 2) := by decide +kernel
theorem dX3_isSame_686 : decode cX3_isSame 686 = .ok (.iload 8, 2) := by decide +kernel
theorem dX3_isSame_688 : decode cX3_isSame 688 = .ok (.iastore, 1) := by decide +kernel
theorem dX3_isSame_689 : decode cX3_isSame 689 = .ok (.dup, 1) := by decide +kernel
theorem dX3_isSame_690 : decode cX3_isSame 690 = .ok (.bipush 8, 2) := by decide +kernel
theorem dX3_isSame_692 : decode cX3_isSame 692 = .ok (.iload 6, 2) := by decide +kernel
theorem dX3_isSame_694 : decode cX3_isSame 694 = .ok (.iastore, 1) := by decide +kernel
theorem dX3_isSame_695 : decode cX3_isSame 695 = .ok (.astore 10, 2) := by decide +kernel
theorem dX3_isSame_697 : decode cX3_isSame 697 = .ok (.iconst 0, 1) := by decide +kernel
theorem dX3_isSame_698 : decode cX3_isSame 698 = .ok (.istore 11, 2) := by decide +kernel
theorem dX3_isSame_700 : decode cX3_isSame 700 = .ok (.iload 11, 2) := by decide +kernel
theorem dX3_isSame_702 : decode cX3_isSame 702 = .ok (.bipush 9, 2) := by decide +kernel
theorem dX3_isSame_704 : decode cX3_isSame 704 = .ok (.if_icmp .ge 25, 3) := by decide +kernel
theorem dX3_isSame_707 : decode cX3_isSame 707 = .ok (.aload_n 1, 1) := by decide +kernel
theorem dX3_isSame_708 : decode cX3_isSame 708 = .ok (.iload 11, 2) := by decide +kernel
theorem dX3_isSame_710 : decode cX3_isSame 710 = .ok (.invokevirtual 84, 3) := by decide +kernel
theorem dX3_isSame_713 : decode cX3_isSame 713 = .ok (.aload 10, 2) := by decide +kernel
theorem dX3_isSame_715 : decode cX3_isSame 715 = .ok (.iload 11, 2) := by decide +kernel
theorem dX3_isSame_717 : decode cX3_isSame 717 = .ok (.iaload, 1) := by decide +kernel
theorem dX3_isSame_718 : decode cX3_isSame 718 = .ok (.if_icmp .eq 5, 3) := by decide +kernel
theorem dX3_isSame_721 : decode cX3_isSame 721 = .ok (.iconst 0, 1) := by decide +kernel
theorem dX3_isSame_722 : decode cX3_isSame 722 = .ok (.ireturn, 1) := by decide +kernel
theorem dX3_isSame_723 : decode cX3_isSame 723 = .ok (.iinc 11 1, 3) := by decide +kernel
theorem dX3_isSame_726 : decode cX3_isSame 726 = .ok (.goto (-26), 3) := by decide +kernel
theorem dX3_isSame_729 : decode cX3_isSame 729 = .ok (.aload_n 1, 1) := by decide +kernel
theorem dX3_isSame_730 : decode cX3_isSame 730 = .ok (.invokevirtual 87, 3) := by decide +kernel
theorem dX3_isSame_733 : decode cX3_isSame 733 = .ok (.iload 4, 2) := by decide +kernel
theorem dX3_isSame_735 : decode cX3_isSame 735 = .ok (.ifCond .ne 7, 3) := by decide +kernel
theorem dX3_isSame_738 : decode cX3_isSame 738 = .ok (.dconst 0, 1) := by decide +kernel
theorem dX3_isSame_739 : decode cX3_isSame 739 = .ok (.goto 10, 3) := by decide +kernel
theorem dX3_isSame_742 : decode cX3_isSame 742 = .ok (.iload 7, 2) := by decide +kernel
theorem dX3_isSame_744 : decode cX3_isSame 744 = .ok (.i2d, 1) := by decide +kernel
theorem dX3_isSame_745 : decode cX3_isSame 745 = .ok (.iload 4, 2) := by decide +kernel
theorem dX3_isSame_747 : decode cX3_isSame 747 = .ok (.i2d, 1) := by decide +kernel
theorem dX3_isSame_748 : decode cX3_isSame 748 = .ok (.ddiv, 1) := by decide +kernel
theorem dX3_isSame_749 : decode cX3_isSame 749 = .ok (.dcmp .l, 1) := by decide +kernel
theorem dX3_isSame_750 : decode cX3_isSame 750 = .ok (.ifCond .ne 7, 3) := by decide +kernel
theorem dX3_isSame_753 : decode cX3_isSame 753 = .ok (.iconst 1, 1) := by decide +kernel
theorem dX3_isSame_754 : decode cX3_isSame 754 = .ok (.goto 4, 3) := by decide +kernel
theorem dX3_isSame_757 : decode cX3_isSame 757 = .ok (.iconst 0, 1) := by decide +kernel
theorem dX3_isSame_758 : decode cX3_isSame 758 = .ok (.ireturn, 1) := by decide +kernel
end
section
/-! worlds that grow: frames, new arrays, new objects, copies -/
theorem zf_l {α : Type} {a b c : List α} {k : Nat} {q : α} (h : a[k]? = some q) : ((a ++ b) ++ c)[k]? = some q := by
  have h1 := (List.getElem?_eq_some_iff.mp h).1
  rw [List.getElem?_append_left (by rw [List.length_append]; omega), List.getElem?_append_left h1]
  exact h
theorem zf_m {α : Type} {a b c : List α} {k : Nat} {q : α} (h : b[k]? = some q) : ((a ++ b) ++ c)[a.length + k]? = some q := by
  have h1 := (List.getElem?_eq_some_iff.mp h).1
  rw [List.getElem?_append_left (by rw [List.length_append]; omega), List.getElem?_append_right (by omega), show a.length + k - a.length = k by omega]
  exact h
theorem zf_r {α : Type} {a b c : List α} {k : Nat} {q : α} (h : c[k]? = some q) : ((a ++ b) ++ c)[a.length + b.length + k]? = some q := by
  rw [List.getElem?_append_right (by rw [List.length_append]; omega), List.length_append, show a.length + b.length + k - (a.length + b.length) = k by omega]
  exact h
theorem zfP {D : va_G} {cl : List vw_C} {a b c : va_W} {H : Heap} (h : va_P D cl ((a ++ b) ++ c) H) : va_P D cl a H ∧ va_P D cl b H ∧ va_P D cl c H :=
  ⟨fun k q hk => h k q (zf_l hk), fun k q hk => h _ q (zf_m hk), fun k q hk => h _ q (zf_r hk)⟩
theorem zfD {A : Nat → Prop} {a b c : va_W} (h : va_D A ((a ++ b) ++ c)) : va_D A b := by
  refine ⟨fun i j p q hi hj e => ?_, fun k q hk => h.2 _ q (zf_m hk)⟩
  have := h.1 _ _ p q (zf_m hi) (zf_m hj) e
  omega
theorem zf_in {b : va_W} {sz x : Nat} {a c : va_W} (h : va_A b sz x) : va_A ((a ++ b) ++ c) sz x := by
  rcases h with ⟨k, e, h⟩ | h
  · exact Or.inl ⟨_, e, zf_m h⟩
  · exact Or.inr h
theorem zf_go {D : va_G} {cl : List vw_C} {a b c b' : va_W} {st t : State} (hP : va_P D cl ((a ++ b) ++ c) st.heap) {A : Nat → Prop} (hD : va_D A ((a ++ b) ++ c)) (hP' : va_P D cl b' t.heap) (hD' : va_D (va_A b st.heap.size) b') (hF : va_F (va_A b st.heap.size) st t) :
    va_P D cl ((a ++ b') ++ c) t.heap ∧ va_D (va_A ((a ++ b) ++ c) st.heap.size) ((a ++ b') ++ c) ∧ va_F (va_A ((a ++ b) ++ c) st.heap.size) st t := by
  obtain ⟨hPa, hPb, hPc⟩ := zfP hP
  have na : ∀ (k : Nat) (q : Nat × va_E), a[k]? = some q → ¬ va_A b st.heap.size q.1 := by
    intro k q hk h
    rcases h with ⟨j, e, h⟩ | h
    · have h1 := hD.1 _ _ q (q.1, e) (zf_l hk) (zf_m h) rfl
      have h2 := (List.getElem?_eq_some_iff.mp hk).1
      omega
    · have := (hPa k q hk).lt
      omega
  have nc : ∀ (k : Nat) (q : Nat × va_E), c[k]? = some q → ¬ va_A b st.heap.size q.1 := by
    intro k q hk h
    rcases h with ⟨j, e, h⟩ | h
    · have h1 := hD.1 _ _ q (q.1, e) (zf_r hk) (zf_m h) rfl
      have h2 := (List.getElem?_eq_some_iff.mp h).1
      omega
    · have := (hPc k q hk).lt
      omega
  have nac : ∀ (i j : Nat) (p q : Nat × va_E), a[i]? = some p → c[j]? = some q → p.1 ≠ q.1 := by
    intro i j p q hi hj e
    have h1 := hD.1 _ _ p q (zf_l hi) (zf_r hj) e
    have h2 := (List.getElem?_eq_some_iff.mp hi).1
    omega
  have Pa : va_P D cl a t.heap := hPa.kept (fun k q hk => hF.2 q.1 (hPa k q hk).lt (na k q hk))
  have Pc : va_P D cl c t.heap := hPc.kept (fun k q hk => hF.2 q.1 (hPc k q hk).lt (nc k q hk))
  refine ⟨(Pa.app hP').app Pc, ?_, hF.1, fun q h1 h2 => hF.2 q h1 (fun h => h2 (zf_in h))⟩
  have Da : va_D (va_A ((a ++ b) ++ c) st.heap.size) a := ⟨fun i j p q hi hj e => hD.1 _ _ p q (zf_l hi) (zf_l hj) e, fun k q hk => va_A.in (zf_l hk)⟩
  have Dc : va_D (va_A ((a ++ b) ++ c) st.heap.size) c := by
    refine ⟨fun i j p q hi hj e => ?_, fun k q hk => va_A.in (zf_r hk)⟩
    have := hD.1 _ _ p q (zf_r hi) (zf_r hj) e
    omega
  have Db : va_D (va_A ((a ++ b) ++ c) st.heap.size) b' := hD'.weaken (fun k q _ h => zf_in h)
  refine (Da.app Db (fun i j p q hi hj e => na i p hi (by rw [e]; exact hD'.2 j q hj))).app Dc (fun i j p q hi hj e => ?_)
  by_cases h : i < a.length
  · rw [List.getElem?_append_left h] at hi
    exact nac _ _ _ _ hi hj e
  · rw [List.getElem?_append_right (by omega)] at hi
    exact nc j q hj (by rw [← e]; exact hD'.2 _ p hi)
/-- a method's contract in a wider world -/
theorem zM.fr {g : zG} {l : Launch} {y : MethodName} {ws : List Cond} {rm : Room} {As : List Value} {w : va_W} {post : Option Value → va_W → Prop} {mc ms : Nat} (h : zM g l y ws rm As w post mc ms) (a c : va_W) : zM g l y ws rm As ((a ++ w) ++ c) (fun v W => ∃ w', post v w' ∧ W = (a ++ w') ++ c) mc ms := by
  intro sz p e ha hc hk s m args below hf happ hP hT
  obtain ⟨e0, e1, qP, qK, qD⟩ := hP
  obtain ⟨t, o, h1, h2, h3, ⟨⟨⟨v, w', e1', e2, eP, eD⟩, hF⟩, L, hL1, hL2⟩⟩ := h sz p e ha hc hk s m args below hf happ ⟨e0, e1, (zfP qP).2.1, qK, zfD qD⟩ hT
  subst e1
  obtain ⟨g1, g2, g3⟩ := zf_go qP qD eP eD hF
  exact ⟨t, o, h1, h2, h3, ⟨⟨v, (a ++ w') ++ c, e1', ⟨w', e2, rfl⟩, g1, g2⟩, g3⟩, L, hL1, fun q hq => zf_in (hL2 q hq)⟩
section ZR9
variable {g : zG} {l : Launch} {R : Room} {E : zEnv} {Q : State → Prop} {nL cells slots : Nat} {ws ws' : va_W} {lv lv' : List (Nat × Value)} {st rest : List Value} {pc : Nat} {cc : ByteArray} {own : String} {Ts : List Cond} {ret : Option FieldType}
/-- some of the world is forgotten -/
theorem zW.fewer (a b c : va_W) (h : ws = (a ++ b) ++ c) (k : zW g l R E Q nL cells slots b lv st pc) : zW g l R E Q nL cells slots ws lv st pc := by
  subst h
  exact fun H locs ls hP hD hS hl => k H locs ls (zfP hP).2.1 (zfD hD) hS hl
theorem z_newaI (C : zC g E cc own Ts nL ret) (harr : (Cond.arrayClass .int).before (za E) (zs E) = true) {n : Nat} (hn : n < 100000) (hc : cells + 1 ≤ R.cells) (hs : slots + n ≤ R.slots) (d : decode cc pc = .ok (.newarray .int, 2))
    (kk : ∀ q9 : Nat, zW g l R E Q nL (cells + 1) (slots + n) (ws ++ [(q9, .inl (zI g, n, .inl (fun _ => nI 0)))]) lv (.ref q9 :: st) (pc + 2)) : zW g l R E Q nL cells slots ws lv (.int (nI n) :: st) pc := by
  intro H locs ls hP hD hS hl
  refine va_newa (atype := .int) (ty := .int) (n := nI n) (N' := n) (a0 := (n, .inl (fun _ => nI 0))) C.x C.b harr rfl C.K.1 hP hD hS C.A (fun cA => rfl) (fun h => ?_) ?_ (by show n * 4 ≤ _; omega) hc hs d ?_
  · rw [Int32.lt_iff_toInt_lt, nI_toInt (by omega)] at h
    have h0 : (0 : Int32).toInt = 0 := rfl
    omega
  · show (nI n).toInt.toNat = n
    rw [nI_toInt (by omega)]; rfl
  · intro q9 cA H1 hK1 hP1 hD1 hS1
    have e1 := (hK1.2 3 (cA, .int) rfl).2
    have e2 := (hK1.2 0 (zI g, .int) rfl).2
    have e3 : cA = zI g := Option.some.inj (e1.symm.trans e2)
    subst e3
    exact kk q9 H1 locs ls hP1 hD1 hS1 hl
theorem z_newaZ (C : zC g E cc own Ts nL ret) (harr : (Cond.arrayClass .boolean).before (za E) (zs E) = true) {n : Nat} (hn : n < 100000) (hc : cells + 1 ≤ R.cells) (hs : slots + n ≤ R.slots) (d : decode cc pc = .ok (.newarray .boolean, 2))
    (kk : ∀ q9 : Nat, zW g l R E Q nL (cells + 1) (slots + n) (ws ++ [(q9, .inl (zZ g, n, .inl (fun _ => nI 0)))]) lv (.ref q9 :: st) (pc + 2)) : zW g l R E Q nL cells slots ws lv (.int (nI n) :: st) pc := by
  intro H locs ls hP hD hS hl
  refine va_newa (atype := .boolean) (ty := .boolean) (n := nI n) (N' := n) (a0 := (n, .inl (fun _ => nI 0))) C.x C.b harr rfl C.K.1 hP hD hS C.A (fun cA => rfl) (fun h => ?_) ?_ (by show n * 1 ≤ _; omega) hc hs d ?_
  · rw [Int32.lt_iff_toInt_lt, nI_toInt (by omega)] at h
    have h0 : (0 : Int32).toInt = 0 := rfl
    omega
  · show (nI n).toInt.toNat = n
    rw [nI_toInt (by omega)]; rfl
  · intro q9 cA H1 hK1 hP1 hD1 hS1
    have e1 := (hK1.2 3 (cA, .boolean) rfl).2
    have e2 := (hK1.2 1 (zZ g, .boolean) rfl).2
    have e3 : cA = zZ g := Option.some.inj (e1.symm.trans e2)
    subst e3
    exact kk q9 H1 locs ls hP1 hD1 hS1 hl
theorem z_new (C : zC g E cc own Ts nL ret) {C2 : String} {T : u_T} {N ci index : Nat} (hin : ∀ w ∈ u_ws C2 T N, w ∈ Ts) (ty : Nat → FieldType) (hty : ∀ k, k < N → parseFieldDescriptor (T k).2.2.1 = some (ty k)) (hcl : (Cond.classLink own index C2).before (za E) (zs E) = true) (hinst : (Cond.instantiable C2 N).before (za E) (zs E) = true) (hini : (Cond.initialized C2).before (za E) (zs E) = true)
    (hc9 : vwCl[ci]? = some (C2, T, N)) (fs : List Value) (hfs : ∀ j, j < N → defaultValue (ty j) = vp_V fs j) (hc : cells + 1 ≤ R.cells) (hs : slots + N ≤ R.slots) (d : decode cc pc = .ok (.new index, 3))
    (kk : ∀ q9 : Nat, zW g l R E Q nL (cells + 1) (slots + N) (ws ++ [(q9, .inr (ci, fs))]) lv (.ref q9 :: st) (pc + 3)) : zW g l R E Q nL cells slots ws lv st pc := by
  intro H locs ls hP hD hS hl
  exact va_new C.x C.b C.ts hin ty hty C.ow hcl hinst hini C.K.1 hP hD hS C.A hc9 hfs hc hs d (fun q9 H1 hP1 hD1 hS1 => kk q9 H1 locs ls hP1 hD1 hS1 hl)
end ZR9
section ZR10
variable {g : zG} {l : Launch} {R : Room} {E : zEnv} {Q : State → Prop} {nL cells slots : Nat} {ws ws' : va_W} {lv lv' : List (Nat × Value)} {st rest : List Value} {pc : Nat} {cc : ByteArray} {own : String} {Ts : List Cond} {ret : Option FieldType}
variable {post : Option Value → va_W → Prop} {mc ms : Nat}
/-- the world, its things told in another order -/
theorem zW.perm (is : List Nat) (w2 : va_W) (hn : va_nd is = true) (h1 : is.filterMap (fun i => ws[i]?) = w2) (h2 : is.map (fun i => ws[i]?) = w2.map some) (k : zW g l R E Q nL cells slots w2 lv st pc) : zW g l R E Q nL cells slots ws lv st pc :=
  fun H locs ls hP hD hS hl => k H locs ls (hP.sub is h1) (hD.sub is hn h2) hS hl
/-- a constructor of another class of the nest -/
theorem z_callIN (C : zC g E cc own Ts nL ret) {y : MethodName} {host : String} {bytes : ByteArray} {maxL n index : Nat} {wy : List Cond} {rm : Room} {As : List Value} {b : Nat}
    (hM : zM g l y wy rm (.ref b :: As) ws post mc ms) (cw : va_CN R (zs E) (za E) own index y host bytes maxL none wy rm mc ms n ∧ y.name = "<init>" ∧ (Cond.instanceMethod y).before (za E) (zs E) = true) (hn : As.length = n) (hst : st = As.reverse ++ .ref b :: rest) (hr : (rest.map fun v => v.category).sum ≤ 8) (d : decode cc pc = .ok (.invokespecial index, 3)) (hf : cells + mc ≤ R.cells ∧ slots + ms ≤ R.slots)
    (kk : ∀ v w', post v w' → zW g l R E Q nL (cells + mc) (slots + ms) w' lv (v.toList ++ rest) (pc + 3)) : zW g l R E Q nL cells slots ws lv st pc :=
  z_go (fun H locs ls hP hD hS hl => va_runIN C.fx (hM H.size) cw (z_pcS C.K hP hD) rfl hn hl.1 hst (lv_room hr) d hf) C.A kk
end ZR10
theorem nwX0 : ∀ j, j < 2 → defaultValue (tyX0 j) = vp_V [.int (nI 0), .int (nI 0)] j := by
  intro j h
  rcases (show j = 0 ∨ j = 1 by omega) with rfl | rfl <;> rfl
theorem nwX1 : ∀ j, j < 4 → defaultValue (tyX1 j) = vp_V [.null, .null, .null, .null] j := by
  intro j h
  rcases (show j = 0 ∨ j = 1 ∨ j = 2 ∨ j = 3 by omega) with rfl | rfl | rfl | rfl <;> rfl
def zNX2 : List Value := [.null, .int (nI 0), .null, .int (nI 0), .null, .null, .null, .null, .null, .null, .int (nI 0), .null, .null, .null]
theorem nwX2 : ∀ j, j < 14 → defaultValue (tyX2 j) = vp_V zNX2 j := by
  intro j h
  rcases (show j = 0 ∨ j = 1 ∨ j = 2 ∨ j = 3 ∨ j = 4 ∨ j = 5 ∨ j = 6 ∨ j = 7 ∨ j = 8 ∨ j = 9 ∨ j = 10 ∨ j = 11 ∨ j = 12 ∨ j = 13 by omega) with rfl | rfl | rfl | rfl | rfl | rfl | rfl | rfl | rfl | rfl | rfl | rfl | rfl | rfl <;> rfl
def zNX3 : List Value := [.null, .null, .null, .int (nI 0), .int (nI 0), .int (nI 0)]
theorem nwX3 : ∀ j, j < 6 → defaultValue (tyX3 j) = vp_V zNX3 j := by
  intro j h
  rcases (show j = 0 ∨ j = 1 ∨ j = 2 ∨ j = 3 ∨ j = 4 ∨ j = 5 by omega) with rfl | rfl | rfl | rfl | rfl | rfl <;> rfl
/-- nothing yet -/
def zA0 : zS := zMk 0 0 0 0 (fun _ => 0) (fun _ => 0) (fun _ => 0) (fun _ => 0) (fun _ => 0) (fun _ => 0)
theorem zInv_A0 : zInv zA0 := ⟨⟨Nat.zero_le _, Nat.zero_le _, Nat.zero_le _, Nat.two_pow_pos _, fun f h => absurd h (Nat.not_lt_zero f), fun b h => absurd h (Nat.not_lt_zero b)⟩, fun _ _ => rfl⟩
theorem zIn_A0 : zIn zA0 = fun _ => false := by
  funext k
  show (decide (k < 0) && _) = false
  rw [decide_eq_false (Nat.not_lt_zero k)]; rfl
theorem zG0_A0 : zG0 zA0 = fun _ => 0 := by
  funext k
  show (if k < 0 then _ else 0) = (0 : Int)
  rw [if_neg (Nat.not_lt_zero k)]
theorem wB_new (g : zG) (b p1 p2 p3 p4 p5 p6 p7 p8 p9 p10 p11 p12 p13 p14 p15 p16 p17 p18 p19 : Nat) : ∃ q : Nat → Nat, q 0 = b ∧ q 12 = p12 ∧ ([(b, .inr (2, [.ref p1, .int (nI 0), .ref p2, .int (nI 0), .ref p3, .ref p4, .ref p5, .ref p6, .ref p7, .ref p8, .int (nI 0), .ref p12, .ref p13, .ref p11])),
   (p1, .inl (zI g, 8, .inl (fun _ => nI 0))), (p2, .inl (zZ g, 5, .inl (fun _ => nI 0))), (p3, .inl (zI g, 12, .inl (fun _ => nI 0))), (p4, .inl (zI g, 12, .inl (fun _ => nI 0))), (p5, .inl (zI g, 12, .inl (fun _ => nI 0))), (p6, .inl (zI g, 12, .inl (fun _ => nI 0))), (p7, .inl (zI g, 12, .inl (fun _ => nI 0))), (p8, .inl (zZ g, 12, .inl (fun _ => nI 0))),
   (p9, .inr (0, [.int (nI 0), .int (nI 0)])), (p10, .inr (0, [.int (nI 0), .int (nI 0)])), (p11, .inr (0, [.int (nI 0), .int (nI 0)])), (p12, .inr (1, [.ref p9, .ref p14, .ref p16, .ref p18])), (p13, .inr (1, [.ref p10, .ref p15, .ref p17, .ref p19])),
   (p14, .inl (zI g, 5, .inl (fun _ => nI 0))), (p15, .inl (zI g, 5, .inl (fun _ => nI 0))), (p16, .inl (zI g, 5, .inl (fun _ => nI 0))), (p17, .inl (zI g, 5, .inl (fun _ => nI 0))), (p18, .inl (zI g, 5, .inl (fun _ => nI 0))), (p19, .inl (zI g, 5, .inl (fun _ => nI 0)))] : va_W) = wB g q zA0 (zG0 zA0) (fun _ => (0, 0)) (fun _ _ => 0) (fun _ _ => 0) (fun _ _ => 0) := by
  refine ⟨fun k => [b, p1, p2, p3, p4, p5, p6, p7, p8, p9, p10, p11, p12, p13, p14, p15, p16, p17, p18, p19].getD k 0, rfl, rfl, ?_⟩
  rw [zG0_A0]
  unfold wB
  rw [zIn_A0]
  rfl
/-- a contract in a world with more behind it, or ahead of it -/
theorem zM.fl {g : zG} {l : Launch} {y : MethodName} {ws : List Cond} {rm : Room} {As : List Value} {w : va_W} {post : Option Value → va_W → Prop} {mc ms : Nat} (h : zM g l y ws rm As w post mc ms) (c : va_W) : zM g l y ws rm As (w ++ c) (fun v W => ∃ w', post v w' ∧ W = w' ++ c) mc ms := h.fr [] c
theorem zM.fh {g : zG} {l : Launch} {y : MethodName} {ws : List Cond} {rm : Room} {As : List Value} {w : va_W} {post : Option Value → va_W → Prop} {mc ms : Nat} (h : zM g l y ws rm As w post mc ms) (a : va_W) : zM g l y ws rm As (a ++ w) (fun v W => ∃ w', post v w' ∧ W = a ++ w') mc ms := by
  have h1 := h.fr a []
  rw [List.append_nil] at h1
  refine h1.mono (fun v W => ?_)
  rintro ⟨w', e1, e2⟩
  exact ⟨w', e1, by rw [e2, List.append_nil]⟩
end
section
theorem zArrI : (FieldType.array .int).toString = "[I" := by decide +kernel
/-! rows of arrays, methods that answer a reference, the script handed to methods, frames -/
section ZRR
variable {g : zG} {l : Launch} {R : Room} {E : zEnv} {Q : State → Prop} {nL cells slots : Nat} {ws ws' : va_W} {lv lv' : List (Nat × Value)} {st rest : List Value} {pc : Nat} {cc : ByteArray} {own : String} {Ts : List Cond} {ret : Option FieldType}
variable {post : Option Value → va_W → Prop} {mc ms : Nat}
theorem z_irem (C : zC g E cc own Ts nL ret) {x y : Int32} (d : decode cc pc = .ok (.irem, 1)) (hne : ¬ y = 0) {v : Int32} (hv : x - x / y * y = v) (k : zW g l R E Q nL cells slots ws lv (.int v :: st) (pc + 1)) : zW g l R E Q nL cells slots ws lv (.int y :: .int x :: st) pc := by
  subst hv; exact fun H locs ls hP hD hS hl => lv_irem C.x C.b d hne (k H locs ls hP hD hS hl)
theorem z_dup2 (C : zC g E cc own Ts nL ret) {va vb : Value} (d : decode cc pc = .ok (.dup2, 1)) (hva : va.category = 1) (hvb : vb.category = 1) (k : zW g l R E Q nL cells slots ws lv (va :: vb :: va :: vb :: st) (pc + 1)) : zW g l R E Q nL cells slots ws lv (va :: vb :: st) pc :=
  fun H locs ls hP hD hS hl => lv_dup2_11 C.x C.b d hva hvb (k H locs ls hP hD hS hl)
theorem z_ifnonnull (C : zC g E cc own Ts nL ret) {x : Nat} {off : Int} (tgt : Nat) (d : decode cc pc = .ok (.ifnonnull off, 3)) (ht : (pc : Int) + off = (tgt : Int)) (k : zW g l R E Q nL cells slots ws lv st tgt) : zW g l R E Q nL cells slots ws lv (.ref x :: st) pc :=
  fun H locs ls hP hD hS hl => lv_ifnonnull C.x C.b d ht (k H locs ls hP hD hS hl)
theorem z_alenZ (C : zC g E cc own Ts nL ret) {a n : Nat} {f : Nat → Int32} (q0 : Nat) (ha : ws[q0]? = some (a, .inl (zZ g, n, .inl f))) (d : decode cc pc = .ok (.arraylength, 1)) (kk : zW g l R E Q nL cells slots ws lv (.int (nI n) :: st) (pc + 1)) : zW g l R E Q nL cells slots ws lv (.ref a :: st) pc :=
  fun H locs ls hP hD hS hl => va_alen C.x C.b C.K.1 hP q0 1 ha (ty := .boolean) rfl rfl d (kk H locs ls hP hD hS hl)
theorem z_alenR (C : zC g E cc own Ts nL ret) {a n : Nat} {f : Nat → Option Nat} (q0 : Nat) (ha : ws[q0]? = some (a, .inl (zJ g, n, .inr (.inr (.inr (.inr f)))))) (d : decode cc pc = .ok (.arraylength, 1)) (kk : zW g l R E Q nL cells slots ws lv (.int (nI n) :: st) (pc + 1)) : zW g l R E Q nL cells slots ws lv (.ref a :: st) pc :=
  fun H locs ls hP hD hS hl => va_alen C.x C.b C.K.1 hP q0 2 ha (ty := .array .int) rfl rfl d (kk H locs ls hP hD hS hl)
theorem z_aald (C : zC g E cc own Ts nL ret) {a n j : Nat} {f : Nat → Option Nat} (q0 : Nat) (ha : ws[q0]? = some (a, .inl (zJ g, n, .inr (.inr (.inr (.inr f)))))) (hj : j < n) (hn : n < 2 ^ 31) (d : decode cc pc = .ok (.aaload, 1)) {v : Nat} (hv : f j = some v) (kk : zW g l R E Q nL cells slots ws lv (.ref v :: st) (pc + 1)) : zW g l R E Q nL cells slots ws lv (.int (nI j) :: .ref a :: st) pc := by
  have e : (nI j).toNatClampNeg = j := nI_clamp (by omega)
  intro H locs ls hP hD hS hl
  have hin := vp_in_nI hj hn
  have hlt : (nI j).toNatClampNeg < n := by rw [e]; exact hj
  exact W.aald (v := .ref v) (ty := .array .int) C.x C.b (hP q0 _ ha) ((C.K.1.2 2 _ rfl).1 n (fun j => va_rf (f j))) rfl (fun q => by cases q) (by show ¬ (nI j < 0 ∨ (arrV _ _ _).slots.size ≤ _); rw [arrV_size]; exact hin) (by show (arrV _ _ _).slots[_]? = _; rw [arrV_read _ _ hlt, e]; show some (va_rf (f j)) = _; rw [hv]; rfl) rfl rfl d (kk H locs ls hP hD hS hl)
theorem z_assignable (vm : Vm) (c : ClassId) : vm.assignable c c = true := by
  show vm.assignableAux (255 + 1) c c = true
  rw [Vm.assignableAux]
  simp only [beq_self_eq_true, Bool.true_or]
theorem z_aast (C : zC g E cc own Ts nL ret) {a n j v n2 : Nat} {f : Nat → Option Nat} {f2 : Nat → Int32} (q0 qk : Nat) (ha : ws[q0]? = some (a, .inl (zJ g, n, .inr (.inr (.inr (.inr f)))))) (hv : ws[qk]? = some (v, .inl (zI g, n2, .inl f2))) (hj : j < n) (hn : n < 2 ^ 31) (d : decode cc pc = .ok (.aastore, 1)) {w' : va_W} (hw : ws.set q0 (a, .inl (zJ g, n, .inr (.inr (.inr (.inr (va_up f j (some v))))))) = w') (kk : zW g l R E Q nL cells slots w' lv st (pc + 1)) : zW g l R E Q nL cells slots ws lv (.ref v :: .int (nI j) :: .ref a :: st) pc := by
  have e : (nI j).toNatClampNeg = j := nI_clamp (by omega)
  intro H locs ls hP hD hS hl
  have hin := vp_in_nI hj hn
  obtain ⟨kA, k1, k2⟩ := C.K.2.2.1
  obtain ⟨-, kI, hkI, -⟩ := (C.K.1.2 0 _ rfl).1 0 (fun _ => .null)
  have hcell := hP q0 _ ha
  have hcv := hP qk _ hv
  refine W.aast C.x C.b hcell (fun q h => by cases h) (fun h => by cases h) k1 k2 rfl hkI ⟨fun h => hin (Or.inl h), ?_⟩ hcv (fun q h => by cases h) hkI (z_assignable _ _) rfl rfl d fun H1 e1 z oq => ?_
  · show _ < (arrV _ _ _).slots.size
    rw [arrV_size, e]; exact hj
  · have e2 : H1[a]? = some (vp_cell (zJ g) (n, .inr (.inr (.inr (.inr (va_up f j (some v))))))) := by
      rw [e1, e, vp_cell_q, vp_cell_q, arrV_store]
      congr 2
      funext q
      by_cases hq : q = j
      · subst hq
        simp [updV, va_up, va_rf]
      · simp [updV, va_up, hq]
    refine kk H1 _ ls ?_ ?_ (hS.put z oq (hD.2 q0 _ ha)) hl
    · rw [← hw]; exact hP.set hD ha e2 oq
    · rw [← hw]; exact hD.set ha
theorem z_newaR (C : zC g E cc own Ts nL ret) {index : Nat} (hclink : (Cond.classLink own index "[I").before (za E) (zs E) = true) {n : Nat} (hn : n < 100000) (hc : cells + 1 ≤ R.cells) (hs : slots + n ≤ R.slots) (d : decode cc pc = .ok (.anewarray index, 3))
    (kk : ∀ q9 : Nat, zW g l R E Q nL (cells + 1) (slots + n) (ws ++ [(q9, .inl (zJ g, n, .inr (.inr (.inr (.inr (fun _ => none))))))]) lv (.ref q9 :: st) (pc + 3)) : zW g l R E Q nL cells slots ws lv (.int (nI n) :: st) pc := by
  intro H locs ls hP hD hS hl
  have hN : (nI n).toNatClampNeg = n := nI_clamp (by omega)
  have e9 : (nI n).toNatClampNeg * 4 ≤ 536870912 := by rw [hN]; omega
  have hcl2 : (Cond.classLink own index (FieldType.array .int).toString).before (za E) (zs E) = true := by rw [zArrI]; exact hclink
  refine W.anewA (t := .int) C.x C.b C.ow hcl2 C.K.2.2.2 rfl d rfl (fun h => ?_) e9 hc (by rw [hN]; exact hs) fun cA kA comp f1 f2 f3 f4 => ?_
  · rw [Int32.lt_iff_toInt_lt, nI_toInt (by omega)] at h
    have h0 : (0 : Int32).toInt = 0 := rfl
    omega
  have e2 := (C.K.1.2 2 (zJ g, .array .int) rfl).2
  have e3 : cA = zJ g := Option.some.inj (f1.symm.trans e2)
  subst e3
  rw [hN]
  generalize hH1 : H.push ({ cls := zJ g, slots := Array.replicate n .null, vm := .none } : Cell) = H1
  have z1 : H1.size = H.size + 1 := by rw [← hH1, Array.size_push]
  have e1 : H1[H.size]? = some (arrV (zJ g) n (fun _ => .null)) := by rw [← hH1, Array.getElem?_push_size, ← arrV_new]
  have o1 : ∀ q : Nat, q < H.size → H1[q]? = H[q]? := fun q hq => by rw [← hH1, Array.getElem?_push, if_neg (Nat.ne_of_lt hq)]
  have hk : ∀ (k : Nat) (x : Nat × va_E), ws[k]? = some x → H1[x.1]? = H[x.1]? := fun k x hx => o1 x.1 ((hP k x hx).lt)
  refine kk H.size H1 locs ls ((hP.kept hk).app (fun k x hx => ?_)) (hD.push hP rfl (C.A _ hS.1)) ⟨Nat.le_trans hS.1 (by omega), fun x h1 h2 => (o1 x (Nat.lt_of_lt_of_le h1 hS.1)).trans (hS.2.1 x h1 h2), hS.2.2⟩ hl
  have hz : k < 1 := (List.getElem?_eq_some_iff.mp hx).1
  rw [show k = 0 by omega] at hx
  cases hx
  show H1[H.size]? = some (vp_cell _ _)
  rw [vp_cell_q]
  exact e1
theorem z_aret {rt : FieldType} (hrt : (∃ n, rt = .object n) ∨ ∃ t, rt = .array t) (C : zC g E cc own Ts nL (some rt)) {x : Nat} (d : decode cc pc = .ok (.areturn, 1)) (hp : post (some (.ref x)) ws) : zW g l R E (zMQ g E post cells slots) nL cells slots ws lv [.ref x] pc :=
  fun H locs ls hP hD hS hl => W.aret C.x C.b C.r hrt (Or.inr ⟨x, rfl⟩) (z_ret_q hP hD hS hp) hS.2.2 d C.lk
-- the script
def zSc (E : zEnv) (b L : Nat) (xs : Nat → Int32) : Prop := va_X b L xs (zs E) (zs E).heap ∧ b < (zs E).heap.size ∧ ¬ zA E b ∧ L ≤ 260
theorem z_sld (C : zC g E cc own Ts nL ret) {b L : Nat} {xs : Nat → Int32} (S : zSc E b L xs) {j : Nat} (hj : j < L) (d : decode cc pc = .ok (.iaload, 1)) (kk : zW g l R E Q nL cells slots ws lv (.int (xs j) :: st) (pc + 1)) : zW g l R E Q nL cells slots ws lv (.int (nI j) :: .ref b :: st) pc := by
  have hL := S.2.2.2
  have e : (nI j).toNatClampNeg = j := nI_clamp (by omega)
  intro H locs ls hP hD hS hl
  refine va_sld C.x C.b S.1 S.2.1 S.2.2.1 hS (fun h => ?_) d ?_
  · rcases h with h | h
    · rw [Int32.lt_iff_toInt_lt, nI_toInt (by omega)] at h
      have h0 : (0 : Int32).toInt = 0 := rfl
      omega
    · rw [e] at h; omega
  · rw [e]; exact kk H locs ls hP hD hS hl
theorem z_slen (C : zC g E cc own Ts nL ret) {b L : Nat} {xs : Nat → Int32} (S : zSc E b L xs) (d : decode cc pc = .ok (.arraylength, 1)) (kk : zW g l R E Q nL cells slots ws lv (.int (nI L) :: st) (pc + 1)) : zW g l R E Q nL cells slots ws lv (.ref b :: st) pc :=
  fun H locs ls hP hD hS hl => va_slen C.x C.b S.1 S.2.1 S.2.2.1 hS d (kk H locs ls hP hD hS hl)
def zPx (g : zG) (As : List Value) (w : va_W) (sz b L : Nat) (xs : Nat → Int32) : Array Value → State → Prop := va_Pc As (fun U => U.heap.size = sz ∧ va_P g.1 vwCl w U.heap ∧ zK g U ∧ va_D (fun _ => True) w ∧ va_X b L xs U U.heap ∧ ∀ (k : Nat) (e : Nat × va_E), w[k]? = some e → e.1 ≠ b)
/-- a method that returns, and may read the script -/
def zMx (g : zG) (l : Launch) (b L : Nat) (xs : Nat → Int32) (y : MethodName) (ws : List Cond) (rm : Room) (As : List Value) (w : va_W) (post : Option Value → va_W → Prop) (mc ms : Nat) : Prop :=
  ∀ sz : Nat, Met l y ws rm (zPx g As w sz b L xs) (zQ g post (va_A w sz)) mc ms (va_A w sz)
theorem zPx.blind {g : zG} {As : List Value} {w : va_W} {sz b L : Nat} {xs : Nat → Int32} : FrameBlind (zPx g As w sz b L xs) := fun a U f mk q => by
  obtain ⟨q0, q1, qP, qK, qD, qX, qb⟩ := q
  exact ⟨q0, q1, qP, qK.call, qD, va_X.moved (u := U) (U := U.calling f mk a) (Vm.Alike.refl U.vm) qX, qb⟩
theorem zMx.of {y : MethodName} {rm : Room} {As : List Value} {w : va_W} {Ts' : List Cond} {b L : Nat} {xs : Nat → Int32} (hL : L ≤ 260) (hy : plainName y.cls = true) (hw : Ts = .code y cc nL ret :: Ts') (hn : (lg_sl As).length ≤ nL) (hlv : lv_args 0 As = lv)
    (body : ∀ E : zEnv, zC g E cc y.cls Ts nL ret → zSc E b L xs → zW g l rm E (zMQ g E post mc ms) nL 0 0 w lv [] 0) : zMx g l b L xs y Ts rm As w post mc ms := by
  intro sz
  refine Met.ofW hy hw ?_
  intro p e s m args below meth c s₁ B hml hv
  obtain ⟨rfl, hsz, hP, hK, hD0, hX, hb⟩ := hv
  have hts := atoms_spec (ws := Ts) B.pre
  have hD := hD0.self (sz := s.heap.size)
  subst hsz
  have hbs : b < s.heap.size := by
    obtain ⟨scr, h1, -⟩ := hX
    exact (Array.getElem?_eq_some_iff.mp h1).1
  have h := body (p, e, s, m, As.toArray, below, meth, c, va_A w s.heap.size) ⟨B.exec, B.bytes, hml, findClass_of_methodNamed B.named, hts, hK, fun q h => Or.inr h, B.notSynchronized, B.returns⟩ ⟨hX, hbs, fun h => by
    rcases h with ⟨k, e9, h9⟩ | h9
    · exact hb k _ h9 rfl
    · exact absurd hbs (Nat.not_lt.mpr h9), hL⟩
  have hl := lv_entry As (n := nL) hn
  rw [hlv] at hl
  rw [lg_entry_eq]
  exact h s.heap [] _ hP hD va_S.rf hl
theorem z_pcX {w : va_W} {H : Heap} {As : List Value} {locs : List Loc} {b L : Nat} {xs : Nat → Int32} (hK : zK g (zs E)) (S : zSc E b L xs) (hP : va_P g.1 vwCl w H) (hD : va_D (zA E) w) (hS : va_S (zA E) (zs E).heap H locs) : PreS (zs E) H (zPx g As w H.size b L xs) As :=
  ⟨zPx.blind, fun U hU hW => ⟨rfl, by rw [hU], by rw [hU]; exact hP, hK.warm hW, hD.weaken fun _ _ _ _ => trivial, by rw [hU]; exact va_X.moved hW.alike (S.1.kept (hS.2.1 b S.2.1 S.2.2.1)), fun k e h h9 => S.2.2.1 (by rw [← h9]; exact hD.2 k e h)⟩⟩
theorem z_callSx (C : zC g E cc own Ts nL ret) {b L : Nat} {xs : Nat → Int32} (S : zSc E b L xs) {y : MethodName} {bytes : ByteArray} {maxL n index : Nat} {rt : Option FieldType} {wy : List Cond} {rm : Room} {As : List Value}
    (hM : zMx g l b L xs y wy rm As ws post mc ms) (cw : CallB R (zs E) (za E) own index y bytes maxL rt wy rm mc ms n ∧ (Cond.static y).before (za E) (zs E) = true) (hn : As.length = n) (hst : st = As.reverse ++ rest) (hr : (rest.map fun v => v.category).sum ≤ 8) (d : decode cc pc = .ok (.invokestatic index, 3)) (hf : cells + mc ≤ R.cells ∧ slots + ms ≤ R.slots)
    (kk : ∀ v w', post v w' → zW g l R E Q nL (cells + mc) (slots + ms) w' lv (v.toList ++ rest) (pc + 3)) : zW g l R E Q nL cells slots ws lv st pc :=
  z_go (fun H locs ls hP hD hS hl => va_runS C.fx (hM H.size) cw (z_pcX C.K S hP hD hS) rfl hn hl.1 hst (lv_room hr) d hf) C.A kk
end ZRR
theorem zBn (b : Bool) : bI b = 1 ↔ b = true := by cases b <;> decide
theorem zdivmod_bit (n k : Nat) : n / 2 ^ k % 2 = if n.testBit k = true then 1 else 0 := by
  rw [Nat.testBit_eq_decide_div_mod_eq]
  have h : n / 2 ^ k % 2 < 2 := Nat.mod_lt _ (by decide)
  by_cases e : n / 2 ^ k % 2 = 1
  · rw [e]; rfl
  · rw [show n / 2 ^ k % 2 = 0 by omega]; rfl
theorem zrem_bit {n k : Nat} (h : n / 2 ^ k < 2147483648) : nI (n / 2 ^ k) - nI (n / 2 ^ k) / nI 2 * nI 2 = bI (n.testBit k) := by
  rw [pk_rem h (by decide) (by decide), zdivmod_bit]
  cases n.testBit k <;> rfl
theorem zeq_B1 (b : Bool) : bI b = nI 1 ↔ b = true := by cases b <;> decide
end
section
/-! sets of bids: the order that is total, and the best of those that can win -/
theorem zBt_f (p r : Int × Nat) : zBt p r = false ↔ (r.1 < p.1 ∨ (r.1 = p.1 ∧ (zPop r.2 12 < zPop p.2 12 ∨ (zPop r.2 12 = zPop p.2 12 ∧ p.2 ≤ r.2)))) := by
  unfold zBt
  by_cases h : r.1 = p.1
  · rw [if_pos h]
    by_cases h2 : zPop r.2 12 = zPop p.2 12
    · rw [if_pos h2, decide_eq_false_iff_not]; omega
    · rw [if_neg h2, decide_eq_false_iff_not]; omega
  · rw [if_neg h, decide_eq_false_iff_not]; omega
theorem zBt_refl (p : Int × Nat) : zBt p p = false := (zBt_f p p).mpr (Or.inr ⟨rfl, Or.inr ⟨rfl, Nat.le_refl _⟩⟩)
theorem zBt_trans {p q r : Int × Nat} (h1 : zBt p q = false) (h2 : zBt q r = false) : zBt p r = false := by
  rw [zBt_f] at h1 h2 ⊢
  omega
theorem zBt_anti {p r : Int × Nat} (h : zBt p r = true) : zBt r p = false := by
  have h1 : ¬ zBt p r = false := by rw [h]; decide
  rw [zBt_f] at h1 ⊢
  omega
theorem zBt_eq {p r : Int × Nat} (h1 : zBt p r = false) (h2 : zBt r p = false) : p = r := by
  rw [zBt_f] at h1 h2
  have e1 : p.1 = r.1 := by omega
  have e2 : p.2 = r.2 := by omega
  exact Prod.ext e1 e2
theorem zCons_l (x y : Int × Nat) : zBt (zCons x y) x = false := by
  unfold zCons
  split
  · next h => exact zBt_anti h
  · exact zBt_refl x
theorem zCons_r (x y : Int × Nat) : zBt (zCons x y) y = false := by
  unfold zCons
  split
  · exact zBt_refl y
  · next h => simpa using h
theorem zCons_or (x y : Int × Nat) : zCons x y = x ∨ zCons x y = y := by
  unfold zCons
  split
  · exact Or.inr rfl
  · exact Or.inl rfl
theorem zor_add {m i : Nat} (h : m < 2 ^ i) : m ||| 2 ^ i = 2 ^ i + m := by
  have h1 := Nat.two_pow_add_eq_or_of_lt h 1
  rw [Nat.mul_one] at h1
  rw [h1, Nat.or_comm]
theorem zmod_s (n i : Nat) : n % 2 ^ (i + 1) = n % 2 ^ i ∨ n % 2 ^ (i + 1) = 2 ^ i + n % 2 ^ i := by
  have h := Nat.mod_pow_succ (b := 2) (x := n) (k := i)
  rcases Nat.mod_two_eq_zero_or_one (n / 2 ^ i) with e | e
  · rw [e, Nat.mul_zero] at h; exact Or.inl h
  · rw [e, Nat.mul_one] at h; exact Or.inr (by omega)
theorem zadd_or_all : (List.range 12).all (fun b => (List.range 4096).all (fun n => n.testBit b || (n + 2 ^ b == n ||| 2 ^ b))) = true := by decide +kernel
theorem zadd_or {n b : Nat} (hn : n < 4096) (hb : b < 12) (h : n.testBit b = false) : n + 2 ^ b = n ||| 2 ^ b := by
  have h1 := List.all_eq_true.mp (List.all_eq_true.mp zadd_or_all b (List.mem_range.mpr hb)) n (List.mem_range.mpr hn)
  simpa [h] using h1
theorem zpow_bit {b i : Nat} : (2 ^ b).testBit i = decide (b = i) := Nat.testBit_two_pow
theorem zor_bit (n b i : Nat) : (n ||| 2 ^ b).testBit i = (n.testBit i || decide (b = i)) := by rw [Nat.testBit_or, zpow_bit]
theorem zbit_lt {n k i : Nat} (h : n < 2 ^ k) (hi : n.testBit i = true) : i < k := by
  refine Nat.lt_of_not_le (fun h9 => ?_)
  have h1 := Nat.testBit_lt_two_pow (Nat.lt_of_lt_of_le h (zp2_le h9))
  rw [h1] at hi
  cases hi
theorem zPop_or {n b : Nat} (h : n.testBit b = false) : ∀ k, zPop (n ||| 2 ^ b) k = zPop n k + (if b < k then 1 else 0)
  | 0 => rfl
  | k + 1 => by
    show zPop (n ||| 2 ^ b) k + _ = zPop n k + _ + _
    rw [zPop_or h k, zor_bit]
    by_cases e : b = k
    · subst e
      rw [h]
      simp
    · by_cases e2 : b < k
      · rw [if_pos e2, if_pos (show b < k + 1 by omega)]
        simp only [decide_eq_false e, Bool.or_false]
        omega
      · rw [if_neg e2, if_neg (show ¬ b < k + 1 by omega)]
        simp only [decide_eq_false e, Bool.or_false]
        omega
theorem zPop_0 : ∀ k, zPop 0 k = 0
  | 0 => rfl
  | k + 1 => by
    show zPop 0 k + _ = 0
    rw [zPop_0 k, Nat.zero_testBit]; rfl
/-- what a set gains -/
def fGa (a : zS) (n : Nat) : Int := zSi (fun b => if n.testBit b = true then zGn a b else 0) (zNb a)
/-- a set that can win when the bidders of o are out -/
def fFe (a : zS) (o n : Nat) : Prop := n < 2 ^ zNb a ∧ (∀ b, n.testBit b = true → zCn a o b = true) ∧ ∀ b c, n.testBit b = true → n.testBit c = true → b ≠ c → zOw a b ≠ zOw a c ∧ zBu a b &&& zBu a c = 0
theorem zSi_0 : ∀ n, zSi (fun _ => 0) n = 0
  | 0 => rfl
  | n + 1 => by
    show zSi (fun _ => 0) n + 0 = 0
    rw [zSi_0 n]; rfl
theorem fGa_0 (a : zS) : fGa a 0 = 0 := by
  unfold fGa
  rw [zSi_cong (f' := fun _ => 0) _ (fun i _ => by rw [Nat.zero_testBit]; rfl)]
  exact zSi_0 _
theorem fFe_0 (a : zS) (o : Nat) : fFe a o 0 := by
  refine ⟨Nat.two_pow_pos _, fun b h => ?_, fun b c h => ?_⟩
  · rw [Nat.zero_testBit] at h; cases h
  · rw [Nat.zero_testBit] at h; cases h
theorem zSi_or {f : Nat → Int} {n b : Nat} (h : n.testBit b = false) : ∀ k, zSi (fun i => if (n ||| 2 ^ b).testBit i = true then f i else 0) k = zSi (fun i => if n.testBit i = true then f i else 0) k + (if b < k then f b else 0)
  | 0 => rfl
  | k + 1 => by
    show zSi _ k + (if (n ||| 2 ^ b).testBit k = true then f k else 0) = zSi _ k + (if n.testBit k = true then f k else 0) + _
    rw [zSi_or h k, zor_bit]
    by_cases e : b = k
    · subst e
      rw [h]
      simp
    · by_cases e2 : b < k
      · rw [if_pos e2, if_pos (show b < k + 1 by omega)]
        simp only [decide_eq_false e, Bool.or_false]
        omega
      · rw [if_neg e2, if_neg (show ¬ b < k + 1 by omega)]
        simp only [decide_eq_false e, Bool.or_false]
        omega
theorem fGa_or {a : zS} {n b : Nat} (h : n.testBit b = false) (hb : b < zNb a) : fGa a (n ||| 2 ^ b) = fGa a n + zGn a b := by
  unfold fGa
  rw [zSi_or h, if_pos hb]
theorem fFe_sub {a : zS} {o n m : Nat} (h : fFe a o n) (hm : m < 2 ^ zNb a) (hs : ∀ c, m.testBit c = true → n.testBit c = true) : fFe a o m :=
  ⟨hm, fun b hb => h.2.1 b (hs b hb), fun b c hb hc => h.2.2 b c (hs b hb) (hs c hc)⟩
theorem fFe_add {a : zS} {o m i : Nat} (hi : i < zNb a) (hm : fFe a o m) (hb : m.testBit i = false) : fFe a o (m ||| 2 ^ i) ↔ zCn a o i = true ∧ ∀ c, m.testBit c = true → zOw a c ≠ zOw a i ∧ zBu a c &&& zBu a i = 0 := by
  constructor
  · intro h
    have hi9 : (m ||| 2 ^ i).testBit i = true := by rw [zor_bit]; simp
    refine ⟨h.2.1 i hi9, fun c hc => h.2.2 c i (by rw [zor_bit, hc]; rfl) hi9 (fun e => ?_)⟩
    rw [e, hb] at hc; cases hc
  · rintro ⟨h1, h2⟩
    refine ⟨Nat.or_lt_two_pow hm.1 (Nat.pow_lt_pow_right (by decide) hi), fun b h => ?_, fun b c h3 h4 hne => ?_⟩
    · rw [zor_bit, Bool.or_eq_true, decide_eq_true_eq] at h
      rcases h with h | h
      · exact hm.2.1 b h
      · rw [← h]; exact h1
    · rw [zor_bit, Bool.or_eq_true, decide_eq_true_eq] at h3 h4
      rcases h3 with h3 | h3 <;> rcases h4 with h4 | h4
      · exact hm.2.2 b c h3 h4 hne
      · rw [← h4]; exact h2 b h3
      · rw [← h3]
        obtain ⟨g1, g2⟩ := h2 c h4
        exact ⟨fun e => g1 e.symm, by rw [Nat.and_comm]; exact g2⟩
      · exact absurd (h3.symm.trans h4) hne
theorem zand_0 {x y : Nat} : x &&& y = 0 ↔ ∀ i, ¬ (x.testBit i = true ∧ y.testBit i = true) := by
  constructor
  · intro h i hi
    have h1 := congrArg (fun z => Nat.testBit z i) h
    simp [Nat.testBit_and, hi.1, hi.2] at h1
  · intro h
    apply Nat.eq_of_testBit_eq
    intro i
    rw [Nat.testBit_and, Nat.zero_testBit]
    have h1 := h i
    cases e1 : x.testBit i <;> cases e2 : y.testBit i <;> simp_all
/-- the fields of a set -/
def fTf (a : zS) (m tf : Nat) : Prop := ∀ x, tf.testBit x = true ↔ ∃ c, m.testBit c = true ∧ (zBu a c).testBit x = true
theorem fTf_0 (a : zS) : fTf a 0 0 := fun x => by simp
theorem fTf_or {a : zS} {m tf i : Nat} (h : fTf a m tf) : fTf a (m ||| 2 ^ i) (tf ||| zBu a i) := by
  intro x
  rw [Nat.testBit_or, Bool.or_eq_true, h x]
  constructor
  · rintro (⟨c, h1, h2⟩ | h2)
    · exact ⟨c, by rw [zor_bit, h1]; rfl, h2⟩
    · exact ⟨i, by rw [zor_bit]; simp, h2⟩
  · rintro ⟨c, h1, h2⟩
    rw [zor_bit, Bool.or_eq_true, decide_eq_true_eq] at h1
    rcases h1 with h1 | h1
    · exact Or.inl ⟨c, h1, h2⟩
    · exact Or.inr (by rw [h1]; exact h2)
theorem fTf_0iff {a : zS} {m tf y : Nat} (h : fTf a m tf) : tf &&& y = 0 ↔ ∀ c, m.testBit c = true → zBu a c &&& y = 0 := by
  rw [zand_0]
  constructor
  · intro h1 c hc
    rw [zand_0]
    rintro i ⟨h2, h3⟩
    exact h1 i ⟨(h i).mpr ⟨c, hc, h2⟩, h3⟩
  · rintro h1 i ⟨h2, h3⟩
    obtain ⟨c, hc, h4⟩ := (h i).mp h2
    exact zand_0.mp (h1 c hc) i ⟨h4, h3⟩
theorem zCn_out (a : zS) (ab i : Nat) : zCn a (zOu a ||| ab) i = (zCn a (zOu a) i && !(ab.testBit (zOw a i))) := by
  unfold zCn
  rw [Nat.testBit_or]
  cases (zGo a i == 0) <;> cases (zOu a).testBit (zOw a i) <;> cases ab.testBit (zOw a i) <;> cases decide (0 ≤ zGn a i) <;> rfl
theorem zFit_iff {a : zS} {ab i m tf tb : Nat} (hi : i < zNb a) (hb : m.testBit i = false) (h1 : fTf a m tf) (h2 : ∀ o, tb.testBit o = true ↔ (ab.testBit o = true ∨ ∃ c, m.testBit c = true ∧ zOw a c = o)) (hf : fFe a (zOu a ||| ab) m) : zFitb a i tf tb = true ↔ fFe a (zOu a ||| ab) (m ||| 2 ^ i) := by
  rw [fFe_add hi hf hb, zCn_out]
  unfold zFitb
  simp only [Bool.and_eq_true, beq_iff_eq, Bool.not_eq_true']
  rw [fTf_0iff h1, ← Bool.not_eq_true, ← Bool.not_eq_true, h2]
  constructor
  · rintro ⟨g1, g2, g3⟩
    exact ⟨⟨g3, fun h => g2 (Or.inl h)⟩, fun c hc => ⟨fun e => g2 (Or.inr ⟨c, hc, e⟩), g1 c hc⟩⟩
  · rintro ⟨⟨g1, g2⟩, g3⟩
    refine ⟨fun c hc => (g3 c hc).2, ?_, g1⟩
    rintro (h | ⟨c, hc, e⟩)
    · exact g2 h
    · exact (g3 c hc).1 e
theorem fFe_cut {a : zS} {o n j : Nat} (h : fFe a o n) : fFe a o (n % 2 ^ j) :=
  fFe_sub h (Nat.lt_of_le_of_lt (Nat.mod_le _ _) h.1) (fun c hc => by
    rw [Nat.testBit_mod_two_pow, Bool.and_eq_true] at hc; exact hc.2)
theorem zDfs_max {a : zS} (ha : zOk a) (ab : Nat) : ∀ (k : Nat) (x : Int × Nat) (i tf tb : Nat) (gi : Int) (m : Nat), i + k = zNb a → m < 2 ^ i → fFe a (zOu a ||| ab) m → fTf a m tf → (∀ o, tb.testBit o = true ↔ (ab.testBit o = true ∨ ∃ c, m.testBit c = true ∧ zOw a c = o)) → gi = fGa a m →
    (zDfs a k x i tf tb gi m = x ∨ ∃ n, fFe a (zOu a ||| ab) n ∧ zDfs a k x i tf tb gi m = (fGa a n, n)) ∧ zBt (zDfs a k x i tf tb gi m) x = false ∧ ∀ n, n % 2 ^ i = m → n ≠ m → fFe a (zOu a ||| ab) n → zBt (zDfs a k x i tf tb gi m) (fGa a n, n) = false := by
  intro k
  induction k with
  | zero =>
    intro x i tf tb gi m hk hm hf h1 h2 h3
    refine ⟨Or.inl rfl, zBt_refl x, fun n hnm hne hfn => absurd ?_ hne⟩
    rw [Nat.add_zero] at hk
    rw [hk, Nat.mod_eq_of_lt hfn.1] at hnm
    exact hnm
  | succ k ih =>
    intro x i tf tb gi m hk hm hf h1 h2 h3
    have hnb := ha.2.2.1
    have hi : i < zNb a := by omega
    have hbi : m.testBit i = false := Nat.testBit_lt_two_pow hm
    have hfit := zFit_iff hi hbi h1 h2 hf
    have hm2 : m < 2 ^ (i + 1) := by rw [Nat.pow_succ]; omega
    obtain ⟨i1, i2, i3⟩ := ih (zSw a k x i tf tb gi m) (i + 1) tf tb gi m (by omega) hm2 hf h1 h2 h3
    rw [zDfs_s]
    generalize hX : zDfs a k (zSw a k x i tf tb gi m) (i + 1) tf tb gi m = X at i1 i2 i3 ⊢
    have hor := zor_add hm
    by_cases hft : zFitb a i tf tb = true
    · have hsw : zSw a k x i tf tb gi m = zDfs a k (zCons x (gi + zGn a i, m ||| 2 ^ i)) (i + 1) (tf ||| zBu a i) (tb ||| 2 ^ zOw a i) (gi + zGn a i) (m ||| 2 ^ i) := if_pos hft
      have hfe := hfit.mp hft
      have hlt : m ||| 2 ^ i < 2 ^ (i + 1) := zor_lt hm
      have hg : gi + zGn a i = fGa a (m ||| 2 ^ i) := by rw [h3, fGa_or hbi hi]
      obtain ⟨j1, j2, j3⟩ := ih (zCons x (gi + zGn a i, m ||| 2 ^ i)) (i + 1) (tf ||| zBu a i) (tb ||| 2 ^ zOw a i) (gi + zGn a i) (m ||| 2 ^ i) (by omega) hlt hfe (fTf_or h1) (fun o => by
        rw [zor_bit, Bool.or_eq_true, h2, decide_eq_true_eq]
        constructor
        · rintro ((h | ⟨c, hc, e⟩) | h)
          · exact Or.inl h
          · exact Or.inr ⟨c, by rw [zor_bit, hc]; rfl, e⟩
          · exact Or.inr ⟨i, by rw [zor_bit]; simp, h⟩
        · rintro (h | ⟨c, hc, e⟩)
          · exact Or.inl (Or.inl h)
          · rw [zor_bit, Bool.or_eq_true, decide_eq_true_eq] at hc
            rcases hc with hc | hc
            · exact Or.inl (Or.inr ⟨c, hc, e⟩)
            · exact Or.inr (by rw [hc]; exact e)) hg
      rw [← hsw] at j1 j2 j3
      have hcx : zBt (zSw a k x i tf tb gi m) x = false := zBt_trans j2 (zCons_l _ _)
      have hcy : zBt (zSw a k x i tf tb gi m) (fGa a (m ||| 2 ^ i), m ||| 2 ^ i) = false := by rw [← hg]; exact zBt_trans j2 (zCons_r _ _)
      refine ⟨?_, zBt_trans i2 hcx, fun n hnm hne hfn => ?_⟩
      · rcases i1 with e | ⟨n, e1, e2⟩
        · rw [e]
          rcases j1 with e | ⟨n, e1, e2⟩
          · rw [e]
            rcases zCons_or x (gi + zGn a i, m ||| 2 ^ i) with e | e
            · exact Or.inl e
            · exact Or.inr ⟨m ||| 2 ^ i, hfe, by rw [e, hg]⟩
          · exact Or.inr ⟨n, e1, e2⟩
        · exact Or.inr ⟨n, e1, e2⟩
      · rcases zmod_s n i with e | e
        · exact i3 n (by rw [e]; exact hnm) hne hfn
        · rw [hnm, ← hor] at e
          by_cases he : n = m ||| 2 ^ i
          · rw [he]; exact zBt_trans i2 hcy
          · exact zBt_trans i2 (j3 n e he hfn)
    · have hsw : zSw a k x i tf tb gi m = x := if_neg hft
      rw [hsw] at i1 i2
      refine ⟨i1, i2, fun n hnm hne hfn => ?_⟩
      rcases zmod_s n i with e | e
      · exact i3 n (by rw [e]; exact hnm) hne hfn
      · have h9 := fFe_cut (j := i + 1) hfn
        rw [e, hnm, ← hor] at h9
        exact absurd (hfit.mpr h9) hft
/-- the class's search finds the best -/
theorem zFw_top {a : zS} (ha : zOk a) (ab : Nat) : (zFw a ab).1 = fGa a (zFw a ab).2 ∧ fFe a (zOu a ||| ab) (zFw a ab).2 ∧ ∀ n, fFe a (zOu a ||| ab) n → zBt (zFw a ab) (fGa a n, n) = false := by
  obtain ⟨i1, i2, i3⟩ := zDfs_max ha ab (zNb a) (0, 0) 0 0 ab 0 0 (by omega) (by decide) (fFe_0 _ _) (fTf_0 a) (fun o => by simp) (fGa_0 a).symm
  have e9 : zDfs a (zNb a) (0, 0) 0 0 ab 0 0 = zFw a ab := rfl
  rw [e9] at i1 i2 i3
  have h0 : ((0 : Int), (0 : Nat)) = (fGa a 0, 0) := by rw [fGa_0]
  refine ⟨?_, ?_, fun n hn => ?_⟩
  · rcases i1 with e | ⟨n, e1, e2⟩
    · rw [e, h0]
    · rw [e2]
  · rcases i1 with e | ⟨n, e1, e2⟩
    · rw [e]; exact fFe_0 _ _
    · rw [e2]; exact e1
  · by_cases h : n = 0
    · rw [h, ← h0]; exact i2
    · exact i3 n (by rw [Nat.pow_zero, Nat.mod_one]) h hn
theorem zFw_is {a : zS} (ha : zOk a) (ab : Nat) {y : Int × Nat} (h1 : y.1 = fGa a y.2) (h2 : fFe a (zOu a ||| ab) y.2) (h3 : ∀ n, fFe a (zOu a ||| ab) n → zBt y (fGa a n, n) = false) : y = zFw a ab := by
  obtain ⟨g1, g2, g3⟩ := zFw_top ha ab
  refine zBt_eq ?_ ?_
  · have h := h3 _ g2
    rw [← g1] at h
    exact h
  · have h := g3 _ h2
    rw [← h1] at h
    exact h
theorem zFw_lt {a : zS} (ha : zOk a) (ab : Nat) : (zFw a ab).2 < 2 ^ zNb a := (zFw_top ha ab).2.1.1
end
section
/-! the sale that the law keeps by hand: its world, 0 the object, 1 reserves, 2 who is in, 3 the row of bids, then a row for each bid -/
def zRf (a : zS) : Nat → Nat := fun k => if k < zNf a then zRs a k else 0
def zRow (a : zS) (b : Nat) : Nat → Int32 := fun j => match j with
  | 0 => nI (zOw a b)
  | 1 => nI (zBu a b)
  | 2 => nI (zPr a b)
  | 3 => nI (zWo a b)
  | 4 => nI (zGo a b)
  | _ => nI 0
def zPt (a : zS) (q : Nat → Nat) : Nat → Option Nat := fun i => if i < zNb a then some (q (4 + i)) else none
theorem zPt_at {a : zS} {q : Nat → Nat} {i : Nat} (h : i < zNb a) : zPt a q i = some (q (4 + i)) := if_pos h
def wSr (g : zG) (q : Nat → Nat) (a : zS) : va_W := (List.range (zNb a)).map (fun b => (q (4 + b), .inl (zI g, 5, .inl (zRow a b))))
def wS (g : zG) (q : Nat → Nat) (a : zS) (sm : Int × Nat × Nat) : va_W :=
  (q 0, .inr (3, [.ref (q 1), .ref (q 2), .ref (q 3), .int (iZ sm.1), .int (nI sm.2.1), .int (nI sm.2.2)])) ::
  (q 1, .inl (zI g, zNf a, .inl (fun k => nI (zRf a k)))) :: (q 2, .inl (zZ g, zNd a, .inl (fun k => bI (zIn a k)))) ::
  (q 3, .inl (zJ g, zNb a, .inr (.inr (.inr (.inr (zPt a q)))))) :: wSr g q a
section WS
variable {g : zG} {q : Nat → Nat} {a : zS} {sm : Int × Nat × Nat}
theorem wS_o : (wS g q a sm)[0]? = some (q 0, .inr (3, [.ref (q 1), .ref (q 2), .ref (q 3), .int (iZ sm.1), .int (nI sm.2.1), .int (nI sm.2.2)])) := rfl
theorem wS_rs : (wS g q a sm)[1]? = some (q 1, .inl (zI g, zNf a, .inl (fun k => nI (zRf a k)))) := rfl
theorem wS_in : (wS g q a sm)[2]? = some (q 2, .inl (zZ g, zNd a, .inl (fun k => bI (zIn a k)))) := rfl
theorem wS_bi : (wS g q a sm)[3]? = some (q 3, .inl (zJ g, zNb a, .inr (.inr (.inr (.inr (zPt a q)))))) := rfl
theorem wS_row {b : Nat} (hb : b < zNb a) : (wS g q a sm)[4 + b]? = some (q (4 + b), .inl (zI g, 5, .inl (zRow a b))) := by
  rw [Nat.add_comm 4 b]
  show (wSr g q a)[b]? = _
  unfold wSr
  rw [List.getElem?_map, List.getElem?_range hb, Nat.add_comm b 4]
  rfl
theorem wS_len : (wS g q a sm).length = 4 + zNb a := by
  show (wSr g q a).length + 1 + 1 + 1 + 1 = _
  unfold wSr
  rw [List.length_map, List.length_range]
  omega
theorem wS_set_sum (x : Int) : (wS g q a sm).set 0 (q 0, .inr (3, [Value.ref (q 1), .ref (q 2), .ref (q 3), .int (iZ sm.1), .int (nI sm.2.1), .int (nI sm.2.2)].set 3 (.int (iZ x)))) = wS g q a (x, sm.2.1, sm.2.2) := rfl
theorem wS_set_many (x : Nat) : (wS g q a sm).set 0 (q 0, .inr (3, [Value.ref (q 1), .ref (q 2), .ref (q 3), .int (iZ sm.1), .int (nI sm.2.1), .int (nI sm.2.2)].set 4 (.int (nI x)))) = wS g q a (sm.1, x, sm.2.2) := rfl
theorem wS_set_set (x : Nat) : (wS g q a sm).set 0 (q 0, .inr (3, [Value.ref (q 1), .ref (q 2), .ref (q 3), .int (iZ sm.1), .int (nI sm.2.1), .int (nI sm.2.2)].set 5 (.int (nI x)))) = wS g q a (sm.1, sm.2.1, x) := rfl
theorem zmap_set {α : Type} (f f' : Nat → α) (n b : Nat) (v : α) (h1 : ∀ i, i < n → i ≠ b → f' i = f i) (h2 : b < n → f' b = v) : ((List.range n).map f).set b v = (List.range n).map f' := by
  apply List.ext_getElem?
  intro i
  by_cases hi : i < n
  · by_cases e : i = b
    · subst e
      rw [List.getElem?_set_self (by rw [List.length_map, List.length_range]; exact hi), List.getElem?_map, List.getElem?_range hi]
      exact congrArg some (h2 hi).symm
    · rw [List.getElem?_set_ne (fun h => e h.symm), List.getElem?_map, List.getElem?_map, List.getElem?_range hi]
      exact congrArg some (h1 i hi e).symm
  · rw [List.getElem?_eq_none (by rw [List.length_set, List.length_map, List.length_range]; omega), List.getElem?_eq_none (by rw [List.length_map, List.length_range]; omega)]
theorem wS_set_rs {f : Nat} (hf : f < zNf a) (x : Nat) : (wS g q a sm).set 1 (q 1, .inl (zI g, zNf a, .inl (upd (fun k => nI (zRf a k)) f (nI x)))) = wS g q (zSetRs a f x) sm := by
  have e : va_up (zRf a) f x = zRf (zSetRs a f x) := by
    funext k
    show va_up (zRf a) f x k = if k < zNf a then va_up (zRs a) f x k else 0
    unfold zRf va_up
    by_cases h : k = f
    · subst h; simp [hf]
    · simp [h]
  rw [zup_N, e]
  rfl
theorem wS_set_in (ha : zOk a) {d : Nat} (hd : d < zNd a) (v : Bool) : (wS g q a sm).set 2 (q 2, .inl (zZ g, zNd a, .inl (upd (fun k => bI (zIn a k)) d (bI v)))) = wS g q (zSetOu a (zOuIn (zOu a) d v)) sm := by
  rw [zup_B, zIn_setOu ha hd v]
  rfl
theorem wS_row_set {b : Nat} (hb : b < zNb a) {f : Nat → Int32} {a' : zS} (h0 : zNb a' = zNb a) (h1 : zNf a' = zNf a) (h2 : zRf a' = zRf a) (h3 : zNd a' = zNd a) (h4 : zIn a' = zIn a) (h5 : zRow a' b = f) (h6 : ∀ i, i ≠ b → zRow a' i = zRow a i) : (wS g q a sm).set (4 + b) (q (4 + b), .inl (zI g, 5, .inl f)) = wS g q a' sm := by
  rw [Nat.add_comm 4 b]
  unfold wS
  rw [List.set_cons_succ, List.set_cons_succ, List.set_cons_succ, List.set_cons_succ]
  have hp : zPt a' q = zPt a q := by unfold zPt; rw [h0]
  rw [h0, h1, h2, h3, h4, hp]
  congr 4
  unfold wSr
  rw [h0]
  refine zmap_set _ _ _ _ _ (fun i _ hne => ?_) (fun _ => ?_)
  · show (q (4 + i), _) = (q (4 + i), _)
    rw [h6 i hne]
  · show (q (4 + b), _) = (q (b + 4), _)
    rw [h5, Nat.add_comm 4 b]
theorem zRow_pr (b x : Nat) : zRow (zSetPr a b x) b = upd (zRow a b) 2 (nI x) := by
  funext j
  show zRow (zSetPr a b x) b j = if j = 2 then nI x else zRow a b j
  match j with
  | 0 => rfl
  | 1 => rfl
  | 2 => show nI (va_up (zPr a) b x b) = nI x; rw [va_up_self]
  | 3 => rfl
  | 4 => rfl
  | n + 5 => rfl
theorem zRow_wo (b x : Nat) : zRow (zSetWo a b x) b = upd (zRow a b) 3 (nI x) := by
  funext j
  show zRow (zSetWo a b x) b j = if j = 3 then nI x else zRow a b j
  match j with
  | 0 => rfl
  | 1 => rfl
  | 2 => rfl
  | 3 => show nI (va_up (zWo a) b x b) = nI x; rw [va_up_self]
  | 4 => rfl
  | n + 5 => rfl
theorem zRow_go (b x : Nat) : zRow (zSetGo a b x) b = upd (zRow a b) 4 (nI x) := by
  funext j
  show zRow (zSetGo a b x) b j = if j = 4 then nI x else zRow a b j
  match j with
  | 0 => rfl
  | 1 => rfl
  | 2 => rfl
  | 3 => rfl
  | 4 => show nI (va_up (zGo a) b x b) = nI x; rw [va_up_self]
  | n + 5 => rfl
theorem wS_set_pr {b : Nat} (hb : b < zNb a) (x : Nat) : (wS g q a sm).set (4 + b) (q (4 + b), .inl (zI g, 5, .inl (upd (zRow a b) 2 (nI x)))) = wS g q (zSetPr a b x) sm := by
  refine wS_row_set hb rfl rfl rfl rfl rfl (zRow_pr b x) (fun i hne => ?_)
  funext j
  match j with
  | 2 => show nI (va_up (zPr a) b x i) = nI (zPr a i); rw [va_up_ne _ _ hne]
  | 0 => rfl
  | 1 => rfl
  | 3 => rfl
  | 4 => rfl
  | n + 5 => rfl
theorem wS_set_wo {b : Nat} (hb : b < zNb a) (x : Nat) : (wS g q a sm).set (4 + b) (q (4 + b), .inl (zI g, 5, .inl (upd (zRow a b) 3 (nI x)))) = wS g q (zSetWo a b x) sm := by
  refine wS_row_set hb rfl rfl rfl rfl rfl (zRow_wo b x) (fun i hne => ?_)
  funext j
  match j with
  | 3 => show nI (va_up (zWo a) b x i) = nI (zWo a i); rw [va_up_ne _ _ hne]
  | 0 => rfl
  | 1 => rfl
  | 2 => rfl
  | 4 => rfl
  | n + 5 => rfl
theorem wS_set_go {b : Nat} (hb : b < zNb a) (x : Nat) : (wS g q a sm).set (4 + b) (q (4 + b), .inl (zI g, 5, .inl (upd (zRow a b) 4 (nI x)))) = wS g q (zSetGo a b x) sm := by
  refine wS_row_set hb rfl rfl rfl rfl rfl (zRow_go b x) (fun i hne => ?_)
  funext j
  match j with
  | 4 => show nI (va_up (zGo a) b x i) = nI (zGo a i); rw [va_up_ne _ _ hne]
  | 0 => rfl
  | 1 => rfl
  | 2 => rfl
  | 3 => rfl
  | n + 5 => rfl
end WS
section ZRX
variable {g : zG} {l : Launch} {R : Room} {E : zEnv} {Q : State → Prop} {nL cells slots : Nat} {ws w2 : va_W} {lv : List (Nat × Value)} {st : List Value} {pc : Nat}
/-- the world told anew: each of its things from its place in the old -/
theorem zW.reidx (f : Nat → Nat) (hi : ∀ i j, i < w2.length → j < w2.length → f i = f j → i = j) (h : ∀ (i : Nat) (e : Nat × va_E), w2[i]? = some e → ws[f i]? = some e) (k : zW g l R E Q nL cells slots w2 lv st pc) : zW g l R E Q nL cells slots ws lv st pc :=
  fun H locs ls hP hD hS hl => k H locs ls (fun i e he => hP _ e (h i e he)) ⟨fun i j x y hx hy e => hi i j (List.getElem?_eq_some_iff.mp hx).1 (List.getElem?_eq_some_iff.mp hy).1 (hD.1 _ _ x y (h i x hx) (h j y hy) e), fun i e he => hD.2 _ e (h i e he)⟩ hS hl
end ZRX
/-! choosing bidder by bidder finds the same set -/
def zT3 (x : Int × Nat) : Int × Nat × Nat := (x.1, zPop x.2 12, x.2)
def zCk (x y : Int × Nat × Nat) : Int × Nat × Nat := if y.1 < x.1 ∨ (y.1 = x.1 ∧ (y.2.1 < x.2.1 ∨ (y.2.1 = x.2.1 ∧ x.2.2 < y.2.2))) then x else y
theorem zCk_T (x : Int × Nat) (gi : Int) (m : Nat) : zCk (zT3 x) (gi, zPop m 12, m) = zT3 (zCons x (gi, m)) := by
  unfold zCk zCons
  by_cases h : zBt x (gi, m) = true
  · rw [if_pos h, if_neg]
    · rfl
    · have h1 := zBt_anti h
      have h2 : ¬ zBt x (gi, m) = false := by rw [h]; decide
      rw [zBt_f] at h1 h2
      show ¬ (gi < x.1 ∨ (gi = x.1 ∧ (zPop m 12 < zPop x.2 12 ∨ (zPop m 12 = zPop x.2 12 ∧ x.2 < m))))
      have h3 : gi = (gi, m).1 := rfl
      have h4 : m = (gi, m).2 := rfl
      simp only at h1 h2
      omega
  · rw [if_neg h]
    have h1 : zBt x (gi, m) = false := by simpa using h
    have h2 := h1
    rw [zBt_f] at h1
    simp only at h1
    by_cases h3 : gi = x.1 ∧ m = x.2
    · obtain ⟨e1, e2⟩ := h3
      subst e1; subst e2
      split <;> rfl
    · rw [if_pos]
      show gi < x.1 ∨ (gi = x.1 ∧ (zPop m 12 < zPop x.2 12 ∨ (zPop m 12 = zPop x.2 12 ∧ x.2 < m)))
      omega
def zChf {α : Type} (f : α → Nat → α) : Nat → α → α
  | 0, x => x
  | n + 1, x => f (zChf f n x) n
/-- what choosing for the bidders from who on makes of x -/
def zCh (a : zS) (wo : Int) : Nat → (Int × Nat × Nat) → Nat → Nat → Int → Nat → Nat → (Int × Nat × Nat)
  | 0, x, _, _, gi, n, m => zCk x (gi, n, m)
  | k + 1, x, who, tf, gi, n, m => if (who : Int) = wo then zCh a wo k x (who + 1) tf gi n m else
      zChf (fun y b => if zOw a b = who ∧ zCn a (zOu a) b = true ∧ zBu a b &&& tf = 0 then zCh a wo k y (who + 1) (tf ||| zBu a b) (gi + zGn a b) (n + 1) (m + 2 ^ b) else y) (zNb a) (zCh a wo k x (who + 1) tf gi n m)
/-- n has m, and besides bids of bidders from who on alone -/
def fEx (a : zS) (n m who : Nat) : Prop := ∀ c, m.testBit c = true ↔ (n.testBit c = true ∧ zOw a c < who)
theorem zCh_max {a : zS} (ha : zOk a) (wo : Int) (o : Nat) (ho : ∀ b, b < zNb a → (zCn a o b = true ↔ (zCn a (zOu a) b = true ∧ (zOw a b : Int) ≠ wo))) : ∀ (k : Nat) (x : Int × Nat) (who tf : Nat) (gi : Int) (m : Nat), who + k = zNd a → fFe a o m → fTf a m tf → (∀ c, m.testBit c = true → zOw a c < who) → gi = fGa a m →
    ∃ y, zCh a wo k (zT3 x) who tf gi (zPop m 12) m = zT3 y ∧ (y = x ∨ ∃ n, fFe a o n ∧ y = (fGa a n, n)) ∧ zBt y x = false ∧ ∀ n, fFe a o n → fEx a n m who → zBt y (fGa a n, n) = false := by
  intro k
  induction k with
  | zero =>
    intro x who tf gi m hk hf h1 h2 h3
    refine ⟨zCons x (gi, m), zCk_T x gi m, ?_, zCons_l _ _, fun n hn he => ?_⟩
    · rcases zCons_or x (gi, m) with e | e
      · exact Or.inl e
      · exact Or.inr ⟨m, hf, by rw [e, h3]⟩
    · have e : n = m := by
        apply Nat.eq_of_testBit_eq
        intro c
        have h4 := he c
        by_cases hc : n.testBit c = true
        · have h5 := ha.ow (zbit_lt hn.1 hc)
          rw [hc, h4.mpr ⟨hc, by omega⟩]
        · have h5 : ¬ m.testBit c = true := fun h => hc (h4.mp h).1
          rw [Bool.not_eq_true] at hc h5
          rw [hc, h5]
      subst e
      rw [← h3]
      exact zCons_r _ _
  | succ k ih =>
    intro x who tf gi m hk hf h1 h2 h3
    have hnb := ha.2.2.1
    obtain ⟨y1, e1, g1, g2, g3⟩ := ih x (who + 1) tf gi m (by omega) hf h1 (fun c hc => by have := h2 c hc; omega) h3
    -- a set without a bid of who
    have hno : ∀ n, fFe a o n → fEx a n m who → (∀ b, n.testBit b = true → zOw a b ≠ who) → zBt y1 (fGa a n, n) = false := by
      intro n hn he hne
      refine g3 n hn (fun c => ?_)
      rw [he c]
      constructor
      · rintro ⟨q1, q2⟩; exact ⟨q1, by omega⟩
      · rintro ⟨q1, q2⟩; exact ⟨q1, by have := hne c q1; omega⟩
    show ∃ y, (if (who : Int) = wo then zCh a wo k (zT3 x) (who + 1) tf gi (zPop m 12) m else _) = zT3 y ∧ _
    by_cases hw : (who : Int) = wo
    · rw [if_pos hw]
      refine ⟨y1, e1, g1, g2, fun n hn he => hno n hn he (fun b hb e => ?_)⟩
      have h4 := (ho b (zbit_lt hn.1 hb)).mp (hn.2.1 b hb)
      exact h4.2 (by rw [e]; exact hw)
    · rw [if_neg hw, e1]
      generalize hF : (fun (y : Int × Nat × Nat) (b : Nat) => if zOw a b = who ∧ zCn a (zOu a) b = true ∧ zBu a b &&& tf = 0 then zCh a wo k y (who + 1) (tf ||| zBu a b) (gi + zGn a b) (zPop m 12 + 1) (m + 2 ^ b) else y) = F
      have fold : ∀ N, N ≤ zNb a → ∃ y, zChf F N (zT3 y1) = zT3 y ∧ (y = y1 ∨ ∃ n, fFe a o n ∧ y = (fGa a n, n)) ∧ zBt y y1 = false ∧ ∀ b n, b < N → fFe a o n → fEx a n m who → n.testBit b = true → zOw a b = who → zBt y (fGa a n, n) = false := by
        intro N
        induction N with
        | zero => exact fun _ => ⟨y1, rfl, Or.inl rfl, zBt_refl _, fun b n hb => absurd hb (Nat.not_lt_zero b)⟩
        | succ N ihN =>
          intro hN
          obtain ⟨y, f1, f2, f3, f4⟩ := ihN (by omega)
          have hs : zChf F (N + 1) (zT3 y1) = F (zT3 y) N := by
            show F (zChf F N (zT3 y1)) N = _
            rw [f1]
          rw [hs, ← hF]
          by_cases hc : zOw a N = who ∧ zCn a (zOu a) N = true ∧ zBu a N &&& tf = 0
          · have hmb : m.testBit N = false := by
              rw [← Bool.not_eq_true]
              intro h
              have := h2 N h
              omega
            have hm12 : m < 4096 := Nat.lt_of_lt_of_le hf.1 (zp2_le (k := 12) hnb)
            have hadd := zadd_or hm12 (by omega) hmb
            have hfe : fFe a o (m ||| 2 ^ N) := by
              refine (fFe_add (by omega) hf hmb).mpr ⟨(ho N (by omega)).mpr ⟨hc.2.1, by rw [hc.1]; exact hw⟩, fun c hcm => ⟨?_, ?_⟩⟩
              · have := h2 c hcm; omega
              · have h5 := hc.2.2
                rw [Nat.and_comm] at h5
                exact (fTf_0iff h1).mp h5 c hcm
            obtain ⟨y2, p1, p2, p3, p4⟩ := ih y (who + 1) (tf ||| zBu a N) (gi + zGn a N) (m ||| 2 ^ N) (by omega) hfe (fTf_or h1) (fun c hcm => by
              rw [zor_bit, Bool.or_eq_true, decide_eq_true_eq] at hcm
              rcases hcm with hcm | hcm
              · have := h2 c hcm; omega
              · subst hcm; omega) (by rw [h3, fGa_or hmb (by omega)])
            have hpop : zPop (m ||| 2 ^ N) 12 = zPop m 12 + 1 := by rw [zPop_or hmb, if_pos (by omega)]
            rw [hpop] at p1
            refine ⟨y2, ?_, ?_, zBt_trans p3 f3, fun b n hb hn he hbn how => ?_⟩
            · show (if zOw a N = who ∧ zCn a (zOu a) N = true ∧ zBu a N &&& tf = 0 then zCh a wo k (zT3 y) (who + 1) (tf ||| zBu a N) (gi + zGn a N) (zPop m 12 + 1) (m + 2 ^ N) else zT3 y) = _
              rw [if_pos hc, hadd, p1]
            · rcases p2 with e | h
              · rw [e]; exact f2
              · exact Or.inr h
            · by_cases eb : b = N
              · subst eb
                refine p4 n hn (fun c => ?_)
                rw [zor_bit, Bool.or_eq_true, decide_eq_true_eq, he c]
                constructor
                · rintro (⟨q1, q2⟩ | q1)
                  · exact ⟨q1, by omega⟩
                  · subst q1; exact ⟨hbn, by omega⟩
                · rintro ⟨q1, q2⟩
                  by_cases q3 : zOw a c < who
                  · exact Or.inl ⟨q1, q3⟩
                  · refine Or.inr ?_
                    by_cases q4 : b = c
                    · exact q4
                    · exact absurd (show zOw a b = zOw a c by omega) (hn.2.2 b c hbn q1 q4).1
              · exact zBt_trans p3 (f4 b n (by omega) hn he hbn how)
          · refine ⟨y, ?_, f2, f3, fun b n hb hn he hbn how => ?_⟩
            · show (if zOw a N = who ∧ zCn a (zOu a) N = true ∧ zBu a N &&& tf = 0 then _ else zT3 y) = _
              rw [if_neg hc]
            · by_cases eb : b = N
              · subst eb
                refine absurd ⟨how, ?_, ?_⟩ hc
                · exact ((ho b (by omega)).mp (hn.2.1 b hbn)).1
                · rw [Nat.and_comm]
                  refine (fTf_0iff h1).mpr (fun c hcm => ?_)
                  have h5 := (he c).mp hcm
                  exact (hn.2.2 c b h5.1 hbn (fun e => by rw [e] at h5; omega)).2
              · exact f4 b n (by omega) hn he hbn how
      obtain ⟨y, f1, f2, f3, f4⟩ := fold (zNb a) (Nat.le_refl _)
      refine ⟨y, f1, ?_, zBt_trans f3 g2, fun n hn he => ?_⟩
      · rcases f2 with e | h
        · rw [e]; exact g1
        · exact Or.inr h
      · by_cases hb : ∃ b, n.testBit b = true ∧ zOw a b = who
        · obtain ⟨b, hb1, hb2⟩ := hb
          exact f4 b n (zbit_lt hn.1 hb1) hn he hb1 hb2
        · exact zBt_trans f3 (hno n hn he (fun b h1 h2 => hb ⟨b, h1, h2⟩))
theorem zCh_best {a : zS} (ha : zOk a) (wo : Int) (ab : Nat) (ho : ∀ b, b < zNb a → (zCn a (zOu a ||| ab) b = true ↔ (zCn a (zOu a) b = true ∧ (zOw a b : Int) ≠ wo))) : zCh a wo (zNd a) (0, 0, 0) 0 0 0 0 0 = zT3 (zFw a ab) := by
  obtain ⟨y, h1, h2, h3, h4⟩ := zCh_max ha wo (zOu a ||| ab) ho (zNd a) (0, 0) 0 0 0 0 (by omega) (fFe_0 _ _) (fTf_0 a) (fun c h => by rw [Nat.zero_testBit] at h; cases h) (fGa_0 a).symm
  have e0 : zT3 ((0 : Int), (0 : Nat)) = (0, 0, 0) := by unfold zT3; rw [zPop_0]
  rw [zPop_0, e0] at h1
  rw [h1]
  congr 1
  have hex : ∀ n, fEx a n 0 0 := fun n c => by simp
  refine zFw_is ha ab ?_ ?_ (fun n hn => h4 n hn (hex n))
  · rcases h2 with e | ⟨n, -, e⟩
    · rw [e, fGa_0]
    · rw [e]
  · rcases h2 with e | ⟨n, hn, e⟩
    · rw [e]; exact fFe_0 _ _
    · rw [e]; exact hn
/-- the sale with all -/
theorem zCh_all {a : zS} (ha : zOk a) : zCh a (-1) (zNd a) (0, 0, 0) 0 0 0 0 0 = zT3 (zFw a 0) :=
  zCh_best ha (-1) 0 (fun b _ => by
    rw [Nat.or_zero]
    exact ⟨fun h => ⟨h, by omega⟩, fun h => h.1⟩)
/-- the sale without one -/
theorem zCh_wo {a : zS} (ha : zOk a) (d : Nat) : zCh a (d : Int) (zNd a) (0, 0, 0) 0 0 0 0 0 = zT3 (zFw a (2 ^ d)) :=
  zCh_best ha (d : Int) (2 ^ d) (fun b _ => by
    rw [zCn_out, zpow_bit, Bool.and_eq_true, Bool.not_eq_true', decide_eq_false_iff_not]
    constructor
    · rintro ⟨h1, h2⟩; exact ⟨h1, by omega⟩
    · rintro ⟨h1, h2⟩; exact ⟨h1, by omega⟩)
end
section
set_option maxRecDepth 100000 in
set_option maxHeartbeats 4000000 in
theorem c_X0_init  (l : Launch) (g : zG) (b : Nat) (w : va_W) : zM g l yX0_init wsX0_init { frames := 1, cells := 0, slots := 0, locals := 20 } [.ref b] (w) (zPv (w)) 0 0 := by
  refine zM.of (cc := cX0_init) (nL := 1) (ret := none) (lv := [(0, .ref b)]) (by decide) rfl (Nat.le_of_ble_eq_true rfl) rfl ?_
  intro E C0 hi
  have C : zC g E cX0_init RX0 wsX0_init 1 none := C0
  refine z_aload_n C dX0_init_0 0 rfl ?_
  refine z_objInit C (C.w 1 rfl) (C.w 2 rfl) (C.w 3 rfl) dX0_init_1 (Nat.le_of_ble_eq_true rfl) (Nat.le_of_ble_eq_true rfl) ?_
  exact z_vretP C dX0_init_4 rfl
theorem inX1_init_X0 : ∀ w ∈ wsX00, w ∈ wsX1_init := fun w h => List.mem_cons_of_mem _ (List.mem_append_left _ (List.mem_append_right _ (h)))
theorem inX1_init_X1 : ∀ w ∈ wsX10, w ∈ wsX1_init := fun w h => List.mem_cons_of_mem _ (List.mem_append_right _ (h))
set_option maxRecDepth 100000 in
set_option maxHeartbeats 4000000 in
theorem c_X1_init  (l : Launch) (g : zG) (b : Nat) : zM g l yX1_init wsX1_init { frames := 2, cells := 4, slots := 17, locals := 40 } [.ref b] ([(b, .inr (1, [.null, .null, .null, .null]))]) ((fun v w' => v = none ∧ ∃ p0 p1 p2 p3 : Nat, w' = [(b, .inr (1, [.ref p0, .ref p1, .ref p2, .ref p3])), (p0, .inr (0, [.int (nI 0), .int (nI 0)])), (p1, .inl (zI g, 5, .inl (fun _ => nI 0))), (p2, .inl (zI g, 5, .inl (fun _ => nI 0))), (p3, .inl (zI g, 5, .inl (fun _ => nI 0)))])) 4 17 := by
  refine zM.of (cc := cX1_init) (nL := 1) (ret := none) (lv := [(0, .ref b)]) (by decide) rfl (Nat.le_of_ble_eq_true rfl) rfl ?_
  intro E C0 hi
  have C : zC g E cX1_init RX1 wsX1_init 1 none := C0
  refine z_aload_n C dX1_init_0 0 rfl ?_
  refine z_objInit C (C.w 1 rfl) (C.w 2 rfl) (C.w 3 rfl) dX1_init_1 (Nat.le_of_ble_eq_true rfl) (Nat.le_of_ble_eq_true rfl) ?_
  refine z_aload_n C dX1_init_4 0 rfl ?_
  refine z_new C inX1_init_X0 tyX0 tyX0_ok (C.w 4 rfl) (C.w 5 rfl) (C.w 6 rfl) (ci := 0) rfl _ nwX0 (Nat.le_of_ble_eq_true rfl) (Nat.le_of_ble_eq_true rfl) dX1_init_5 (fun p5 => ?_)
  refine zW.eqw (ws2 := [(b, .inr (1, [.null, .null, .null, .null])), (p5, .inr (0, [.int (nI 0), .int (nI 0)]))]) rfl ?_
  refine z_dup C dX1_init_8 rfl ?_
  refine z_callIN C (c_X0_init l g p5 _) ⟨va_cnB 0 C.ts ggX1_init_X0_init rfl rfl rfl (C.K.2.1 _ (List.mem_of_getElem? (i := 7) rfl)) (C.w 6 rfl) (by decide +kernel) ⟨Nat.le_of_ble_eq_true rfl, Nat.le_of_ble_eq_true rfl⟩, rfl, (C.w 12 rfl)⟩ rfl rfl (Nat.le_of_ble_eq_true rfl) dX1_init_9 ⟨Nat.le_of_ble_eq_true rfl, Nat.le_of_ble_eq_true rfl⟩ ?_
  rintro _ _ ⟨rfl, rfl⟩
  refine z_putF C inX1_init_X1 tyX1_ok nmX1 0 rfl rfl 0 (by decide) (C.w 7 rfl) rfl (hi rfl) rfl (tyX1_ok 0 (by decide)) rfl rfl (Nat.le_of_ble_eq_true rfl) dX1_init_12 rfl ?_
  refine z_aload_n C dX1_init_15 0 rfl ?_
  refine z_iconst C (nI 5) dX1_init_16 (by decide) ?_
  refine z_newaI C (C.w 8 rfl) (n := 5) (by decide) (Nat.le_of_ble_eq_true rfl) (Nat.le_of_ble_eq_true rfl) dX1_init_17 (fun p17 => ?_)
  refine zW.eqw (ws2 := [(b, .inr (1, [.ref p5, .null, .null, .null])), (p5, .inr (0, [.int (nI 0), .int (nI 0)])), (p17, .inl (zI g, 5, .inl (fun _ => nI 0)))]) rfl ?_
  refine z_putF C inX1_init_X1 tyX1_ok nmX1 0 rfl rfl 1 (by decide) (C.w 9 rfl) rfl (hi rfl) rfl (tyX1_ok 1 (by decide)) rfl rfl (Nat.le_of_ble_eq_true rfl) dX1_init_19 rfl ?_
  refine z_aload_n C dX1_init_22 0 rfl ?_
  refine z_iconst C (nI 5) dX1_init_23 (by decide) ?_
  refine z_newaI C (C.w 8 rfl) (n := 5) (by decide) (Nat.le_of_ble_eq_true rfl) (Nat.le_of_ble_eq_true rfl) dX1_init_24 (fun p24 => ?_)
  refine zW.eqw (ws2 := [(b, .inr (1, [.ref p5, .ref p17, .null, .null])), (p5, .inr (0, [.int (nI 0), .int (nI 0)])), (p17, .inl (zI g, 5, .inl (fun _ => nI 0))), (p24, .inl (zI g, 5, .inl (fun _ => nI 0)))]) rfl ?_
  refine z_putF C inX1_init_X1 tyX1_ok nmX1 0 rfl rfl 2 (by decide) (C.w 10 rfl) rfl (hi rfl) rfl (tyX1_ok 2 (by decide)) rfl rfl (Nat.le_of_ble_eq_true rfl) dX1_init_26 rfl ?_
  refine z_aload_n C dX1_init_29 0 rfl ?_
  refine z_iconst C (nI 5) dX1_init_30 (by decide) ?_
  refine z_newaI C (C.w 8 rfl) (n := 5) (by decide) (Nat.le_of_ble_eq_true rfl) (Nat.le_of_ble_eq_true rfl) dX1_init_31 (fun p31 => ?_)
  refine zW.eqw (ws2 := [(b, .inr (1, [.ref p5, .ref p17, .ref p24, .null])), (p5, .inr (0, [.int (nI 0), .int (nI 0)])), (p17, .inl (zI g, 5, .inl (fun _ => nI 0))), (p24, .inl (zI g, 5, .inl (fun _ => nI 0))), (p31, .inl (zI g, 5, .inl (fun _ => nI 0)))]) rfl ?_
  refine z_putF C inX1_init_X1 tyX1_ok nmX1 0 rfl rfl 3 (by decide) (C.w 11 rfl) rfl (hi rfl) rfl (tyX1_ok 3 (by decide)) rfl rfl (Nat.le_of_ble_eq_true rfl) dX1_init_33 rfl ?_
  exact z_vret C dX1_init_36 ⟨rfl, _, _, _, _, rfl⟩
theorem inX2_init_X0 : ∀ w ∈ wsX00, w ∈ wsX2_init := fun w h => List.mem_cons_of_mem _ (List.mem_append_right _ (h))
theorem inX2_init_X1 : ∀ w ∈ wsX10, w ∈ wsX2_init := fun w h => List.mem_cons_of_mem _ (List.mem_append_left _ (List.mem_append_right _ (h)))
theorem inX2_init_X2 : ∀ w ∈ wsX20, w ∈ wsX2_init := fun w h => List.mem_cons_of_mem _ (List.mem_append_left _ (List.mem_append_left _ (List.mem_append_right _ (h))))
set_option maxRecDepth 100000 in
set_option maxHeartbeats 4000000 in
theorem c_X2_init  (l : Launch) (g : zG) (b : Nat) : zM g l yX2_init wsX2_init { frames := 30, cells := 19, slots := 129, locals := 798 } [.ref b] ([(b, .inr (2, [.null, .int (nI 0), .null, .int (nI 0), .null, .null, .null, .null, .null, .null, .int (nI 0), .null, .null, .null]))]) ((fun v w' => v = none ∧ ∃ q : Nat → Nat, q 0 = b ∧ zFace g q zA0 w')) 19 129 := by
  refine zM.of (cc := cX2_init) (nL := 1) (ret := none) (lv := [(0, .ref b)]) (by decide) rfl (Nat.le_of_ble_eq_true rfl) rfl ?_
  intro E C0 hi
  have C : zC g E cX2_init RX2 wsX2_init 1 none := C0
  refine z_aload_n C dX2_init_0 0 rfl ?_
  refine z_objInit C (C.w 1 rfl) (C.w 2 rfl) (C.w 3 rfl) dX2_init_1 (Nat.le_of_ble_eq_true rfl) (Nat.le_of_ble_eq_true rfl) ?_
  refine z_aload_n C dX2_init_4 0 rfl ?_
  refine z_bipush C (nI 8) dX2_init_5 (by decide) ?_
  refine z_newaI C (C.w 4 rfl) (n := 8) (by decide) (Nat.le_of_ble_eq_true rfl) (Nat.le_of_ble_eq_true rfl) dX2_init_7 (fun p7 => ?_)
  refine zW.eqw (ws2 := [(b, .inr (2, [.null, .int (nI 0), .null, .int (nI 0), .null, .null, .null, .null, .null, .null, .int (nI 0), .null, .null, .null])), (p7, .inl (zI g, 8, .inl (fun _ => nI 0)))]) rfl ?_
  refine z_putF C inX2_init_X2 tyX2_ok nmX2 0 rfl rfl 0 (by decide) (C.w 5 rfl) rfl (hi rfl) rfl (tyX2_ok 0 (by decide)) rfl rfl (Nat.le_of_ble_eq_true rfl) dX2_init_9 rfl ?_
  refine z_aload_n C dX2_init_12 0 rfl ?_
  refine z_iconst C (nI 5) dX2_init_13 (by decide) ?_
  refine z_newaZ C (C.w 6 rfl) (n := 5) (by decide) (Nat.le_of_ble_eq_true rfl) (Nat.le_of_ble_eq_true rfl) dX2_init_14 (fun p14 => ?_)
  refine zW.eqw (ws2 := [(b, .inr (2, [.ref p7, .int (nI 0), .null, .int (nI 0), .null, .null, .null, .null, .null, .null, .int (nI 0), .null, .null, .null])), (p7, .inl (zI g, 8, .inl (fun _ => nI 0))), (p14, .inl (zZ g, 5, .inl (fun _ => nI 0)))]) rfl ?_
  refine z_putF C inX2_init_X2 tyX2_ok nmX2 0 rfl rfl 2 (by decide) (C.w 7 rfl) rfl (hi rfl) rfl (tyX2_ok 2 (by decide)) rfl rfl (Nat.le_of_ble_eq_true rfl) dX2_init_16 rfl ?_
  refine z_aload_n C dX2_init_19 0 rfl ?_
  refine z_bipush C (nI 12) dX2_init_20 (by decide) ?_
  refine z_newaI C (C.w 4 rfl) (n := 12) (by decide) (Nat.le_of_ble_eq_true rfl) (Nat.le_of_ble_eq_true rfl) dX2_init_22 (fun p22 => ?_)
  refine zW.eqw (ws2 := [(b, .inr (2, [.ref p7, .int (nI 0), .ref p14, .int (nI 0), .null, .null, .null, .null, .null, .null, .int (nI 0), .null, .null, .null])), (p7, .inl (zI g, 8, .inl (fun _ => nI 0))), (p14, .inl (zZ g, 5, .inl (fun _ => nI 0))), (p22, .inl (zI g, 12, .inl (fun _ => nI 0)))]) rfl ?_
  refine z_putF C inX2_init_X2 tyX2_ok nmX2 0 rfl rfl 4 (by decide) (C.w 8 rfl) rfl (hi rfl) rfl (tyX2_ok 4 (by decide)) rfl rfl (Nat.le_of_ble_eq_true rfl) dX2_init_24 rfl ?_
  refine z_aload_n C dX2_init_27 0 rfl ?_
  refine z_bipush C (nI 12) dX2_init_28 (by decide) ?_
  refine z_newaI C (C.w 4 rfl) (n := 12) (by decide) (Nat.le_of_ble_eq_true rfl) (Nat.le_of_ble_eq_true rfl) dX2_init_30 (fun p30 => ?_)
  refine zW.eqw (ws2 := [(b, .inr (2, [.ref p7, .int (nI 0), .ref p14, .int (nI 0), .ref p22, .null, .null, .null, .null, .null, .int (nI 0), .null, .null, .null])), (p7, .inl (zI g, 8, .inl (fun _ => nI 0))), (p14, .inl (zZ g, 5, .inl (fun _ => nI 0))), (p22, .inl (zI g, 12, .inl (fun _ => nI 0))), (p30, .inl (zI g, 12, .inl (fun _ => nI 0)))]) rfl ?_
  refine z_putF C inX2_init_X2 tyX2_ok nmX2 0 rfl rfl 5 (by decide) (C.w 9 rfl) rfl (hi rfl) rfl (tyX2_ok 5 (by decide)) rfl rfl (Nat.le_of_ble_eq_true rfl) dX2_init_32 rfl ?_
  refine z_aload_n C dX2_init_35 0 rfl ?_
  refine z_bipush C (nI 12) dX2_init_36 (by decide) ?_
  refine z_newaI C (C.w 4 rfl) (n := 12) (by decide) (Nat.le_of_ble_eq_true rfl) (Nat.le_of_ble_eq_true rfl) dX2_init_38 (fun p38 => ?_)
  refine zW.eqw (ws2 := [(b, .inr (2, [.ref p7, .int (nI 0), .ref p14, .int (nI 0), .ref p22, .ref p30, .null, .null, .null, .null, .int (nI 0), .null, .null, .null])), (p7, .inl (zI g, 8, .inl (fun _ => nI 0))), (p14, .inl (zZ g, 5, .inl (fun _ => nI 0))), (p22, .inl (zI g, 12, .inl (fun _ => nI 0))), (p30, .inl (zI g, 12, .inl (fun _ => nI 0))), (p38, .inl (zI g, 12, .inl (fun _ => nI 0)))]) rfl ?_
  refine z_putF C inX2_init_X2 tyX2_ok nmX2 0 rfl rfl 6 (by decide) (C.w 10 rfl) rfl (hi rfl) rfl (tyX2_ok 6 (by decide)) rfl rfl (Nat.le_of_ble_eq_true rfl) dX2_init_40 rfl ?_
  refine z_aload_n C dX2_init_43 0 rfl ?_
  refine z_bipush C (nI 12) dX2_init_44 (by decide) ?_
  refine z_newaI C (C.w 4 rfl) (n := 12) (by decide) (Nat.le_of_ble_eq_true rfl) (Nat.le_of_ble_eq_true rfl) dX2_init_46 (fun p46 => ?_)
  refine zW.eqw (ws2 := [(b, .inr (2, [.ref p7, .int (nI 0), .ref p14, .int (nI 0), .ref p22, .ref p30, .ref p38, .null, .null, .null, .int (nI 0), .null, .null, .null])), (p7, .inl (zI g, 8, .inl (fun _ => nI 0))), (p14, .inl (zZ g, 5, .inl (fun _ => nI 0))), (p22, .inl (zI g, 12, .inl (fun _ => nI 0))), (p30, .inl (zI g, 12, .inl (fun _ => nI 0))), (p38, .inl (zI g, 12, .inl (fun _ => nI 0))), (p46, .inl (zI g, 12, .inl (fun _ => nI 0)))]) rfl ?_
  refine z_putF C inX2_init_X2 tyX2_ok nmX2 0 rfl rfl 7 (by decide) (C.w 11 rfl) rfl (hi rfl) rfl (tyX2_ok 7 (by decide)) rfl rfl (Nat.le_of_ble_eq_true rfl) dX2_init_48 rfl ?_
  refine z_aload_n C dX2_init_51 0 rfl ?_
  refine z_bipush C (nI 12) dX2_init_52 (by decide) ?_
  refine z_newaI C (C.w 4 rfl) (n := 12) (by decide) (Nat.le_of_ble_eq_true rfl) (Nat.le_of_ble_eq_true rfl) dX2_init_54 (fun p54 => ?_)
  refine zW.eqw (ws2 := [(b, .inr (2, [.ref p7, .int (nI 0), .ref p14, .int (nI 0), .ref p22, .ref p30, .ref p38, .ref p46, .null, .null, .int (nI 0), .null, .null, .null])), (p7, .inl (zI g, 8, .inl (fun _ => nI 0))), (p14, .inl (zZ g, 5, .inl (fun _ => nI 0))), (p22, .inl (zI g, 12, .inl (fun _ => nI 0))), (p30, .inl (zI g, 12, .inl (fun _ => nI 0))), (p38, .inl (zI g, 12, .inl (fun _ => nI 0))), (p46, .inl (zI g, 12, .inl (fun _ => nI 0))), (p54, .inl (zI g, 12, .inl (fun _ => nI 0)))]) rfl ?_
  refine z_putF C inX2_init_X2 tyX2_ok nmX2 0 rfl rfl 8 (by decide) (C.w 12 rfl) rfl (hi rfl) rfl (tyX2_ok 8 (by decide)) rfl rfl (Nat.le_of_ble_eq_true rfl) dX2_init_56 rfl ?_
  refine z_aload_n C dX2_init_59 0 rfl ?_
  refine z_bipush C (nI 12) dX2_init_60 (by decide) ?_
  refine z_newaZ C (C.w 6 rfl) (n := 12) (by decide) (Nat.le_of_ble_eq_true rfl) (Nat.le_of_ble_eq_true rfl) dX2_init_62 (fun p62 => ?_)
  refine zW.eqw (ws2 := [(b, .inr (2, [.ref p7, .int (nI 0), .ref p14, .int (nI 0), .ref p22, .ref p30, .ref p38, .ref p46, .ref p54, .null, .int (nI 0), .null, .null, .null])), (p7, .inl (zI g, 8, .inl (fun _ => nI 0))), (p14, .inl (zZ g, 5, .inl (fun _ => nI 0))), (p22, .inl (zI g, 12, .inl (fun _ => nI 0))), (p30, .inl (zI g, 12, .inl (fun _ => nI 0))), (p38, .inl (zI g, 12, .inl (fun _ => nI 0))), (p46, .inl (zI g, 12, .inl (fun _ => nI 0))), (p54, .inl (zI g, 12, .inl (fun _ => nI 0))), (p62, .inl (zZ g, 12, .inl (fun _ => nI 0)))]) rfl ?_
  refine z_putF C inX2_init_X2 tyX2_ok nmX2 0 rfl rfl 9 (by decide) (C.w 13 rfl) rfl (hi rfl) rfl (tyX2_ok 9 (by decide)) rfl rfl (Nat.le_of_ble_eq_true rfl) dX2_init_64 rfl ?_
  refine z_aload_n C dX2_init_67 0 rfl ?_
  refine z_new C inX2_init_X1 tyX1 tyX1_ok (C.w 14 rfl) (C.w 15 rfl) (C.w 16 rfl) (ci := 1) rfl _ nwX1 (Nat.le_of_ble_eq_true rfl) (Nat.le_of_ble_eq_true rfl) dX2_init_68 (fun p68 => ?_)
  refine zW.eqw (ws2 := [(b, .inr (2, [.ref p7, .int (nI 0), .ref p14, .int (nI 0), .ref p22, .ref p30, .ref p38, .ref p46, .ref p54, .ref p62, .int (nI 0), .null, .null, .null])), (p7, .inl (zI g, 8, .inl (fun _ => nI 0))), (p14, .inl (zZ g, 5, .inl (fun _ => nI 0))), (p22, .inl (zI g, 12, .inl (fun _ => nI 0))), (p30, .inl (zI g, 12, .inl (fun _ => nI 0))), (p38, .inl (zI g, 12, .inl (fun _ => nI 0))), (p46, .inl (zI g, 12, .inl (fun _ => nI 0))), (p54, .inl (zI g, 12, .inl (fun _ => nI 0))), (p62, .inl (zZ g, 12, .inl (fun _ => nI 0))), (p68, .inr (1, [.null, .null, .null, .null]))]) rfl ?_
  refine z_dup C dX2_init_71 rfl ?_
  refine z_callIN C (zM.fr (c_X1_init l g p68) [(b, .inr (2, [.ref p7, .int (nI 0), .ref p14, .int (nI 0), .ref p22, .ref p30, .ref p38, .ref p46, .ref p54, .ref p62, .int (nI 0), .null, .null, .null])), (p7, .inl (zI g, 8, .inl (fun _ => nI 0))), (p14, .inl (zZ g, 5, .inl (fun _ => nI 0))), (p22, .inl (zI g, 12, .inl (fun _ => nI 0))), (p30, .inl (zI g, 12, .inl (fun _ => nI 0))), (p38, .inl (zI g, 12, .inl (fun _ => nI 0))), (p46, .inl (zI g, 12, .inl (fun _ => nI 0))), (p54, .inl (zI g, 12, .inl (fun _ => nI 0))), (p62, .inl (zZ g, 12, .inl (fun _ => nI 0)))] []) ⟨va_cnB 0 C.ts ggX2_init_X1_init rfl rfl rfl (C.K.2.1 _ (List.mem_of_getElem? (i := 6) rfl)) (C.w 16 rfl) (by decide +kernel) ⟨Nat.le_of_ble_eq_true rfl, Nat.le_of_ble_eq_true rfl⟩, rfl, (C.w 23 rfl)⟩ rfl rfl (Nat.le_of_ble_eq_true rfl) dX2_init_72 ⟨Nat.le_of_ble_eq_true rfl, Nat.le_of_ble_eq_true rfl⟩ ?_
  rintro _ _ ⟨_, ⟨rfl, p72a, p72b, p72c, p72d, rfl⟩, rfl⟩
  refine zW.eqw (ws2 := [(b, .inr (2, [.ref p7, .int (nI 0), .ref p14, .int (nI 0), .ref p22, .ref p30, .ref p38, .ref p46, .ref p54, .ref p62, .int (nI 0), .null, .null, .null])), (p7, .inl (zI g, 8, .inl (fun _ => nI 0))), (p14, .inl (zZ g, 5, .inl (fun _ => nI 0))), (p22, .inl (zI g, 12, .inl (fun _ => nI 0))), (p30, .inl (zI g, 12, .inl (fun _ => nI 0))), (p38, .inl (zI g, 12, .inl (fun _ => nI 0))), (p46, .inl (zI g, 12, .inl (fun _ => nI 0))), (p54, .inl (zI g, 12, .inl (fun _ => nI 0))), (p62, .inl (zZ g, 12, .inl (fun _ => nI 0))), (p68, .inr (1, [.ref p72a, .ref p72b, .ref p72c, .ref p72d])), (p72a, .inr (0, [.int (nI 0), .int (nI 0)])), (p72b, .inl (zI g, 5, .inl (fun _ => nI 0))), (p72c, .inl (zI g, 5, .inl (fun _ => nI 0))), (p72d, .inl (zI g, 5, .inl (fun _ => nI 0)))]) rfl ?_
  refine z_putF C inX2_init_X2 tyX2_ok nmX2 0 rfl rfl 11 (by decide) (C.w 17 rfl) rfl (hi rfl) rfl (tyX2_ok 11 (by decide)) rfl rfl (Nat.le_of_ble_eq_true rfl) dX2_init_75 rfl ?_
  refine z_aload_n C dX2_init_78 0 rfl ?_
  refine z_new C inX2_init_X1 tyX1 tyX1_ok (C.w 14 rfl) (C.w 15 rfl) (C.w 16 rfl) (ci := 1) rfl _ nwX1 (Nat.le_of_ble_eq_true rfl) (Nat.le_of_ble_eq_true rfl) dX2_init_79 (fun p79 => ?_)
  refine zW.eqw (ws2 := [(b, .inr (2, [.ref p7, .int (nI 0), .ref p14, .int (nI 0), .ref p22, .ref p30, .ref p38, .ref p46, .ref p54, .ref p62, .int (nI 0), .ref p68, .null, .null])), (p7, .inl (zI g, 8, .inl (fun _ => nI 0))), (p14, .inl (zZ g, 5, .inl (fun _ => nI 0))), (p22, .inl (zI g, 12, .inl (fun _ => nI 0))), (p30, .inl (zI g, 12, .inl (fun _ => nI 0))), (p38, .inl (zI g, 12, .inl (fun _ => nI 0))), (p46, .inl (zI g, 12, .inl (fun _ => nI 0))), (p54, .inl (zI g, 12, .inl (fun _ => nI 0))), (p62, .inl (zZ g, 12, .inl (fun _ => nI 0))), (p68, .inr (1, [.ref p72a, .ref p72b, .ref p72c, .ref p72d])), (p72a, .inr (0, [.int (nI 0), .int (nI 0)])), (p72b, .inl (zI g, 5, .inl (fun _ => nI 0))), (p72c, .inl (zI g, 5, .inl (fun _ => nI 0))), (p72d, .inl (zI g, 5, .inl (fun _ => nI 0))), (p79, .inr (1, [.null, .null, .null, .null]))]) rfl ?_
  refine z_dup C dX2_init_82 rfl ?_
  refine z_callIN C (zM.fr (c_X1_init l g p79) [(b, .inr (2, [.ref p7, .int (nI 0), .ref p14, .int (nI 0), .ref p22, .ref p30, .ref p38, .ref p46, .ref p54, .ref p62, .int (nI 0), .ref p68, .null, .null])), (p7, .inl (zI g, 8, .inl (fun _ => nI 0))), (p14, .inl (zZ g, 5, .inl (fun _ => nI 0))), (p22, .inl (zI g, 12, .inl (fun _ => nI 0))), (p30, .inl (zI g, 12, .inl (fun _ => nI 0))), (p38, .inl (zI g, 12, .inl (fun _ => nI 0))), (p46, .inl (zI g, 12, .inl (fun _ => nI 0))), (p54, .inl (zI g, 12, .inl (fun _ => nI 0))), (p62, .inl (zZ g, 12, .inl (fun _ => nI 0))), (p68, .inr (1, [.ref p72a, .ref p72b, .ref p72c, .ref p72d])), (p72a, .inr (0, [.int (nI 0), .int (nI 0)])), (p72b, .inl (zI g, 5, .inl (fun _ => nI 0))), (p72c, .inl (zI g, 5, .inl (fun _ => nI 0))), (p72d, .inl (zI g, 5, .inl (fun _ => nI 0)))] []) ⟨va_cnB 0 C.ts ggX2_init_X1_init rfl rfl rfl (C.K.2.1 _ (List.mem_of_getElem? (i := 6) rfl)) (C.w 16 rfl) (by decide +kernel) ⟨Nat.le_of_ble_eq_true rfl, Nat.le_of_ble_eq_true rfl⟩, rfl, (C.w 23 rfl)⟩ rfl rfl (Nat.le_of_ble_eq_true rfl) dX2_init_83 ⟨Nat.le_of_ble_eq_true rfl, Nat.le_of_ble_eq_true rfl⟩ ?_
  rintro _ _ ⟨_, ⟨rfl, p83a, p83b, p83c, p83d, rfl⟩, rfl⟩
  refine zW.eqw (ws2 := [(b, .inr (2, [.ref p7, .int (nI 0), .ref p14, .int (nI 0), .ref p22, .ref p30, .ref p38, .ref p46, .ref p54, .ref p62, .int (nI 0), .ref p68, .null, .null])), (p7, .inl (zI g, 8, .inl (fun _ => nI 0))), (p14, .inl (zZ g, 5, .inl (fun _ => nI 0))), (p22, .inl (zI g, 12, .inl (fun _ => nI 0))), (p30, .inl (zI g, 12, .inl (fun _ => nI 0))), (p38, .inl (zI g, 12, .inl (fun _ => nI 0))), (p46, .inl (zI g, 12, .inl (fun _ => nI 0))), (p54, .inl (zI g, 12, .inl (fun _ => nI 0))), (p62, .inl (zZ g, 12, .inl (fun _ => nI 0))), (p68, .inr (1, [.ref p72a, .ref p72b, .ref p72c, .ref p72d])), (p72a, .inr (0, [.int (nI 0), .int (nI 0)])), (p72b, .inl (zI g, 5, .inl (fun _ => nI 0))), (p72c, .inl (zI g, 5, .inl (fun _ => nI 0))), (p72d, .inl (zI g, 5, .inl (fun _ => nI 0))), (p79, .inr (1, [.ref p83a, .ref p83b, .ref p83c, .ref p83d])), (p83a, .inr (0, [.int (nI 0), .int (nI 0)])), (p83b, .inl (zI g, 5, .inl (fun _ => nI 0))), (p83c, .inl (zI g, 5, .inl (fun _ => nI 0))), (p83d, .inl (zI g, 5, .inl (fun _ => nI 0)))]) rfl ?_
  refine z_putF C inX2_init_X2 tyX2_ok nmX2 0 rfl rfl 12 (by decide) (C.w 18 rfl) rfl (hi rfl) rfl (tyX2_ok 12 (by decide)) rfl rfl (Nat.le_of_ble_eq_true rfl) dX2_init_86 rfl ?_
  refine z_aload_n C dX2_init_89 0 rfl ?_
  refine z_new C inX2_init_X0 tyX0 tyX0_ok (C.w 19 rfl) (C.w 20 rfl) (C.w 21 rfl) (ci := 0) rfl _ nwX0 (Nat.le_of_ble_eq_true rfl) (Nat.le_of_ble_eq_true rfl) dX2_init_90 (fun p90 => ?_)
  refine zW.eqw (ws2 := [(b, .inr (2, [.ref p7, .int (nI 0), .ref p14, .int (nI 0), .ref p22, .ref p30, .ref p38, .ref p46, .ref p54, .ref p62, .int (nI 0), .ref p68, .ref p79, .null])), (p7, .inl (zI g, 8, .inl (fun _ => nI 0))), (p14, .inl (zZ g, 5, .inl (fun _ => nI 0))), (p22, .inl (zI g, 12, .inl (fun _ => nI 0))), (p30, .inl (zI g, 12, .inl (fun _ => nI 0))), (p38, .inl (zI g, 12, .inl (fun _ => nI 0))), (p46, .inl (zI g, 12, .inl (fun _ => nI 0))), (p54, .inl (zI g, 12, .inl (fun _ => nI 0))), (p62, .inl (zZ g, 12, .inl (fun _ => nI 0))), (p68, .inr (1, [.ref p72a, .ref p72b, .ref p72c, .ref p72d])), (p72a, .inr (0, [.int (nI 0), .int (nI 0)])), (p72b, .inl (zI g, 5, .inl (fun _ => nI 0))), (p72c, .inl (zI g, 5, .inl (fun _ => nI 0))), (p72d, .inl (zI g, 5, .inl (fun _ => nI 0))), (p79, .inr (1, [.ref p83a, .ref p83b, .ref p83c, .ref p83d])), (p83a, .inr (0, [.int (nI 0), .int (nI 0)])), (p83b, .inl (zI g, 5, .inl (fun _ => nI 0))), (p83c, .inl (zI g, 5, .inl (fun _ => nI 0))), (p83d, .inl (zI g, 5, .inl (fun _ => nI 0))), (p90, .inr (0, [.int (nI 0), .int (nI 0)]))]) rfl ?_
  refine z_dup C dX2_init_93 rfl ?_
  refine z_callIN C (c_X0_init l g p90 _) ⟨va_cnB 0 C.ts ggX2_init_X0_init rfl rfl rfl (C.K.2.1 _ (List.mem_of_getElem? (i := 8) rfl)) (C.w 21 rfl) (by decide +kernel) ⟨Nat.le_of_ble_eq_true rfl, Nat.le_of_ble_eq_true rfl⟩, rfl, (C.w 31 rfl)⟩ rfl rfl (Nat.le_of_ble_eq_true rfl) dX2_init_94 ⟨Nat.le_of_ble_eq_true rfl, Nat.le_of_ble_eq_true rfl⟩ ?_
  rintro _ _ ⟨rfl, rfl⟩
  refine z_putF C inX2_init_X2 tyX2_ok nmX2 0 rfl rfl 13 (by decide) (C.w 22 rfl) rfl (hi rfl) rfl (tyX2_ok 13 (by decide)) rfl rfl (Nat.le_of_ble_eq_true rfl) dX2_init_97 rfl ?_
  refine zW.perm [0, 1, 2, 3, 4, 5, 6, 7, 8, 10, 15, 19, 9, 14, 11, 16, 12, 17, 13, 18] ([(b, .inr (2, [.ref p7, .int (nI 0), .ref p14, .int (nI 0), .ref p22, .ref p30, .ref p38, .ref p46, .ref p54, .ref p62, .int (nI 0), .ref p68, .ref p79, .ref p90])), (p7, .inl (zI g, 8, .inl (fun _ => nI 0))), (p14, .inl (zZ g, 5, .inl (fun _ => nI 0))), (p22, .inl (zI g, 12, .inl (fun _ => nI 0))), (p30, .inl (zI g, 12, .inl (fun _ => nI 0))), (p38, .inl (zI g, 12, .inl (fun _ => nI 0))), (p46, .inl (zI g, 12, .inl (fun _ => nI 0))), (p54, .inl (zI g, 12, .inl (fun _ => nI 0))), (p62, .inl (zZ g, 12, .inl (fun _ => nI 0))), (p72a, .inr (0, [.int (nI 0), .int (nI 0)])), (p83a, .inr (0, [.int (nI 0), .int (nI 0)])), (p90, .inr (0, [.int (nI 0), .int (nI 0)])), (p68, .inr (1, [.ref p72a, .ref p72b, .ref p72c, .ref p72d])), (p79, .inr (1, [.ref p83a, .ref p83b, .ref p83c, .ref p83d])), (p72b, .inl (zI g, 5, .inl (fun _ => nI 0))), (p83b, .inl (zI g, 5, .inl (fun _ => nI 0))), (p72c, .inl (zI g, 5, .inl (fun _ => nI 0))), (p83c, .inl (zI g, 5, .inl (fun _ => nI 0))), (p72d, .inl (zI g, 5, .inl (fun _ => nI 0))), (p83d, .inl (zI g, 5, .inl (fun _ => nI 0)))]) (by decide) rfl rfl ?_
  obtain ⟨q, e0, e12, ew⟩ := wB_new g b p7 p14 p22 p30 p38 p46 p54 p62 p72a p83a p90 p68 p79 p72b p83b p72c p83c p72d p83d
  refine zW.eqw ew ?_
  refine zW.lve (lv' := [(0, .ref (q 0))]) (by rw [e0]) ?_
  have ha := zInv_A0.1
  refine z_aload_n C dX2_init_100 0 rfl ?_
  refine z_aload_n C dX2_init_101 0 rfl ?_
  refine z_get C inX2_init_X2 0 wB_o rfl 11 (by decide) (C.w 17 rfl) rfl dX2_init_102 ?_
  refine z_iconst C (nI 0) dX2_init_105 (by decide) ?_
  refine z_callV C (c_X2_settle l g q zA0 (fun _ => (0, 0)) (fun _ _ => 0) (fun _ _ => 0) (fun _ _ => 0) 0 ha (by decide) 0) (cwV 2 C.ts gX2_init_X2_settle rfl rfl rfl (by decide +kernel) ⟨Nat.le_of_ble_eq_true rfl, Nat.le_of_ble_eq_true rfl⟩) wB_o rfl rfl rfl (Nat.le_of_ble_eq_true rfl) dX2_init_106 ⟨Nat.le_of_ble_eq_true rfl, Nat.le_of_ble_eq_true rfl⟩ (z_e ?_)
  rintro _ ⟨bs2, wb2, pd2, gw2, rfl, hs2, hk2⟩
  exact z_vret C dX2_init_109 ⟨rfl, q, e0, _, _, _, _, rfl, hs2⟩
theorem wS_new (g : zG) (b p1 p2 p3 : Nat) : ∃ q : Nat → Nat, q 0 = b ∧ ([(b, .inr (3, [.ref p1, .ref p2, .ref p3, .int (nI 0), .int (nI 0), .int (nI 0)])), (p1, .inl (zI g, 0, .inl (fun _ => nI 0))), (p2, .inl (zZ g, 0, .inl (fun _ => nI 0))), (p3, .inl (zJ g, 0, .inr (.inr (.inr (.inr (fun _ => none))))))] : va_W) = wS g q zA0 (0, 0, 0) := by
  refine ⟨fun k => [b, p1, p2, p3].getD k 0, rfl, ?_⟩
  unfold wS
  rw [zIn_A0]
  rfl
theorem inX3_init_X3 : ∀ w ∈ wsX30, w ∈ wsX3_init := fun w h => List.mem_cons_of_mem _ (List.mem_append_right _ (h))
set_option maxRecDepth 100000 in
set_option maxHeartbeats 4000000 in
theorem c_X3_init  (l : Launch) (g : zG) (b : Nat) : zM g l yX3_init wsX3_init { frames := 1, cells := 3, slots := 0, locals := 20 } [.ref b] ([(b, .inr (3, [.null, .null, .null, .int (nI 0), .int (nI 0), .int (nI 0)]))]) ((fun v w' => v = none ∧ ∃ q : Nat → Nat, q 0 = b ∧ w' = wS g q zA0 (0, 0, 0))) 3 0 := by
  refine zM.of (cc := cX3_init) (nL := 1) (ret := none) (lv := [(0, .ref b)]) (by decide) rfl (Nat.le_of_ble_eq_true rfl) rfl ?_
  intro E C0 hi
  have C : zC g E cX3_init RX3 wsX3_init 1 none := C0
  refine z_aload_n C dX3_init_0 0 rfl ?_
  refine z_objInit C (C.w 1 rfl) (C.w 2 rfl) (C.w 3 rfl) dX3_init_1 (Nat.le_of_ble_eq_true rfl) (Nat.le_of_ble_eq_true rfl) ?_
  refine z_aload_n C dX3_init_4 0 rfl ?_
  refine z_iconst C (nI 0) dX3_init_5 (by decide) ?_
  refine z_newaI C (C.w 4 rfl) (n := 0) (by decide) (Nat.le_of_ble_eq_true rfl) (Nat.le_of_ble_eq_true rfl) dX3_init_6 (fun p6 => ?_)
  refine zW.eqw (ws2 := [(b, .inr (3, [.null, .null, .null, .int (nI 0), .int (nI 0), .int (nI 0)])), (p6, .inl (zI g, 0, .inl (fun _ => nI 0)))]) rfl ?_
  refine z_put C inX3_init_X3 tyX3_ok nmX3 0 rfl rfl 0 (by decide) (C.w 5 rfl) rfl (tyX3_ok 0 (by decide)) rfl rfl (Nat.le_of_ble_eq_true rfl) dX3_init_8 rfl ?_
  refine z_aload_n C dX3_init_11 0 rfl ?_
  refine z_iconst C (nI 0) dX3_init_12 (by decide) ?_
  refine z_newaZ C (C.w 6 rfl) (n := 0) (by decide) (Nat.le_of_ble_eq_true rfl) (Nat.le_of_ble_eq_true rfl) dX3_init_13 (fun p13 => ?_)
  refine zW.eqw (ws2 := [(b, .inr (3, [.ref p6, .null, .null, .int (nI 0), .int (nI 0), .int (nI 0)])), (p6, .inl (zI g, 0, .inl (fun _ => nI 0))), (p13, .inl (zZ g, 0, .inl (fun _ => nI 0)))]) rfl ?_
  refine z_put C inX3_init_X3 tyX3_ok nmX3 0 rfl rfl 1 (by decide) (C.w 7 rfl) rfl (tyX3_ok 1 (by decide)) rfl rfl (Nat.le_of_ble_eq_true rfl) dX3_init_15 rfl ?_
  refine z_aload_n C dX3_init_18 0 rfl ?_
  refine z_iconst C (nI 0) dX3_init_19 (by decide) ?_
  refine z_newaR C (C.w 8 rfl) (n := 0) (by decide) (Nat.le_of_ble_eq_true rfl) (Nat.le_of_ble_eq_true rfl) dX3_init_20 (fun p20 => ?_)
  refine zW.eqw (ws2 := [(b, .inr (3, [.ref p6, .ref p13, .null, .int (nI 0), .int (nI 0), .int (nI 0)])), (p6, .inl (zI g, 0, .inl (fun _ => nI 0))), (p13, .inl (zZ g, 0, .inl (fun _ => nI 0))), (p20, .inl (zJ g, 0, .inr (.inr (.inr (.inr (fun _ => none))))))]) rfl ?_
  refine z_put C inX3_init_X3 tyX3_ok nmX3 0 rfl rfl 2 (by decide) (C.w 9 rfl) rfl (tyX3_ok 2 (by decide)) rfl rfl (Nat.le_of_ble_eq_true rfl) dX3_init_23 rfl ?_
  obtain ⟨q, e0, ew⟩ := wS_new g b p6 p13 p20
  refine zW.eqw ew ?_
  exact z_vret C dX3_init_26 ⟨rfl, q, e0, rfl⟩
end
section
theorem zRf_le {a : zS} (ha : zOk a) (k : Nat) : zRf a k ≤ 99 := by
  unfold zRf
  split
  · next h => exact ha.rs h
  · omega
theorem zRes_rf (a : zS) (m : Nat) : zSum (fun f => if m.testBit f = true then zRf a f else 0) (zNf a) = zRes a m := by
  unfold zRes
  refine zSum_cong _ (fun i hi => ?_)
  unfold zRf
  rw [if_pos hi]
theorem zrow_mul (m f x : Nat) : m / 2 ^ f % 2 * x = if m.testBit f = true then x else 0 := by
  rw [zdivmod_bit]
  split
  · omega
  · omega
theorem inX3_reserve_X3 : ∀ w ∈ wsX30, w ∈ wsX3_reserve := fun w h => List.mem_cons_of_mem _ (List.mem_append_right _ (h))
set_option maxRecDepth 100000 in
set_option maxHeartbeats 4000000 in
theorem c_X3_reserve (l : Launch) (g : zG) (q : Nat → Nat) (a : zS) (sm : Int × Nat × Nat) (ha : zOk a) (m : Nat) (hm : m < 256) : zM g l yX3_reserve wsX3_reserve { frames := 0, cells := 0, slots := 0, locals := 0 } [.ref (q 0), .int (nI m)] (wS g q a sm) (zPi (nI (zRes a m)) (wS g q a sm)) 0 0 := by
  refine zM.of (cc := cX3_reserve) (nL := 4) (ret := (some .int)) (lv := [(0, .ref (q 0)), (1, .int (nI m))]) (by decide) rfl (Nat.le_of_ble_eq_true rfl) rfl ?_
  intro E C0 hi
  have C : zC g E cX3_reserve RX3 wsX3_reserve 4 (some .int) := C0
  obtain ⟨hnf, hnd, hnb, hou, hrs, hbd⟩ := id ha
  refine z_iconst C (nI 0) dX3_reserve_0 (by decide) ?_
  refine z_istore_n C dX3_reserve_1 (by decide) [(2, .int (nI 0)), (0, .ref (q 0)), (1, .int (nI m))] rfl ?_
  refine z_iconst C (nI 0) dX3_reserve_2 (by decide) ?_
  refine z_istore_n C dX3_reserve_3 (by decide) [(3, .int (nI 0)), (2, .int (nI 0)), (0, .ref (q 0)), (1, .int (nI m))] rfl ?_
  refine zW.pick (lv' := [(0, .ref (q 0)), (1, .int (nI m)), (2, .int (nI 0)), (3, .int (nI 0))]) [2, 3, 1, 0] rfl ?_
  have hlp4 : ∀ (k i : Nat), i + k = zNf a → zW g l ({ frames := 0, cells := 0, slots := 0, locals := 0 }) E (zMQ g E (zPi (nI (zRes a m)) (wS g q a sm)) 0 0) 4 0 0 (wS g q a sm) [(0, .ref (q 0)), (1, .int (nI m)), (2, .int (nI (zSum (fun f => if m.testBit f = true then zRf a f else 0) i))), (3, .int (nI i))] [] 4 := by
    intro k
    induction k with
    | zero =>
      intro i hik
      refine z_iload_n C dX3_reserve_4 3 rfl ?_
      refine z_aload_n C dX3_reserve_5 0 rfl ?_
      refine z_get C inX3_reserve_X3 0 wS_o rfl 0 (by decide) (C.w 1 rfl) rfl dX3_reserve_6 ?_
      refine z_alenI C 1 wS_rs dX3_reserve_9 ?_
      refine z_icmp_ge C 34 dX3_reserve_10 (by decide) (zle_NN (by omega) (by omega)) (fun c_10 => ?_) (fun h9 => absurd (by omega) h9)
      refine z_iload_n C dX3_reserve_34 2 rfl ?_
      exact z_iretP C dX3_reserve_35 (by rw [show i = zNf a by omega, zRes_rf]) rfl
    | succ k ih4 =>
      intro i hik
      have hdl : m / 2 ^ i ≤ m := Nat.div_le_self _ _
      refine z_iload_n C dX3_reserve_4 3 rfl ?_
      refine z_aload_n C dX3_reserve_5 0 rfl ?_
      refine z_get C inX3_reserve_X3 0 wS_o rfl 0 (by decide) (C.w 1 rfl) rfl dX3_reserve_6 ?_
      refine z_alenI C 1 wS_rs dX3_reserve_9 ?_
      refine z_icmp_ge C 34 dX3_reserve_10 (by decide) (zle_NN (by omega) (by omega)) (fun h9 => absurd h9 (by omega)) (fun c_10 => ?_)
      refine z_iload_n C dX3_reserve_13 2 rfl ?_
      refine z_iload_n C dX3_reserve_14 1 rfl ?_
      refine z_iload_n C dX3_reserve_15 3 rfl ?_
      refine z_ishr C dX3_reserve_16 (v := nI (m / 2 ^ i)) (zshr_NN (by omega) (by omega)) ?_
      refine z_iconst C (nI 2) dX3_reserve_17 (by decide) ?_
      refine z_irem C dX3_reserve_18 (by decide) (v := nI ((m / 2 ^ i) % 2)) (pk_rem (by omega) (by decide) (by decide)) ?_
      refine z_aload_n C dX3_reserve_19 0 rfl ?_
      refine z_get C inX3_reserve_X3 0 wS_o rfl 0 (by decide) (C.w 1 rfl) rfl dX3_reserve_20 ?_
      refine z_iload_n C dX3_reserve_23 3 rfl ?_
      refine z_ialdN C 1 wS_rs (by omega) (by omega) dX3_reserve_24 (v := nI (zRf a i)) rfl ?_
      have f_24b := zRf_le ha i
      refine z_imul C dX3_reserve_25 (v := nI (if m.testBit i = true then zRf a i else 0)) (by rw [pk_mul, zrow_mul]) ?_
      refine z_iadd C dX3_reserve_26 (v := nI ((zSum (fun f => if m.testBit f = true then zRf a f else 0) i) + (if m.testBit i = true then zRf a i else 0))) (nI_add (zSum (fun f => if m.testBit f = true then zRf a f else 0) i) (if m.testBit i = true then zRf a i else 0)) ?_
      refine z_istore_n C dX3_reserve_27 (by decide) [(2, .int (nI ((zSum (fun f => if m.testBit f = true then zRf a f else 0) i) + (if m.testBit i = true then zRf a i else 0)))), (0, .ref (q 0)), (1, .int (nI m)), (3, .int (nI i))] rfl ?_
      refine z_iinc C dX3_reserve_28 3 (nI (i + 1)) rfl (nI_add i 1) (by decide) [(3, .int (nI (i + 1))), (2, .int (nI ((zSum (fun f => if m.testBit f = true then zRf a f else 0) i) + (if m.testBit i = true then zRf a i else 0)))), (0, .ref (q 0)), (1, .int (nI m))] rfl ?_
      refine z_goto C 4 dX3_reserve_31 (by decide) ?_
      refine zW.pick (lv' := [(0, .ref (q 0)), (1, .int (nI m)), (2, .int (nI ((zSum (fun f => if m.testBit f = true then zRf a f else 0) i) + (if m.testBit i = true then zRf a i else 0)))), (3, .int (nI (i + 1)))]) [2, 3, 1, 0] rfl ?_
      refine zW.lve (lv' := [(0, .ref (q 0)), (1, .int (nI m)), (2, .int (nI (zSum (fun f => if m.testBit f = true then zRf a f else 0) (i + 1)))), (3, .int (nI (i + 1)))]) (rfl) ?_
      exact ih4 (i + 1) (by omega)
  exact hlp4 (zNf a) 0 (by omega)
theorem inX3_gain_X3 : ∀ w ∈ wsX30, w ∈ wsX3_gain := fun w h => List.mem_cons_of_mem _ (List.mem_append_right _ (h))
set_option maxRecDepth 100000 in
set_option maxHeartbeats 4000000 in
theorem c_X3_gain (l : Launch) (g : zG) (q : Nat → Nat) (a : zS) (sm : Int × Nat × Nat) (ha : zOk a) (b : Nat) (hb : b < zNb a) : zM g l yX3_gain wsX3_gain { frames := 1, cells := 0, slots := 0, locals := 23 } [.ref (q 0), .int (nI b)] (wS g q a sm) (zPi (iZ (zGn a b)) (wS g q a sm)) 0 0 := by
  refine zM.of (cc := cX3_gain) (nL := 2) (ret := (some .int)) (lv := [(0, .ref (q 0)), (1, .int (nI b))]) (by decide) rfl (Nat.le_of_ble_eq_true rfl) rfl ?_
  intro E C0 hi
  have C : zC g E cX3_gain RX3 wsX3_gain 2 (some .int) := C0
  obtain ⟨hnf, hnd, hnb, hou, hrs, hbd⟩ := id ha
  refine z_aload_n C dX3_gain_0 0 rfl ?_
  refine z_get C inX3_gain_X3 0 wS_o rfl 2 (by decide) (C.w 1 rfl) rfl dX3_gain_1 ?_
  refine z_iload_n C dX3_gain_4 1 rfl ?_
  refine z_aald C 3 wS_bi (by omega) (by omega) dX3_gain_5 (zPt_at (by omega)) ?_
  refine z_iconst C (nI 2) dX3_gain_6 (by decide) ?_
  refine z_ialdN C (4 + b) (wS_row (b := b) (by omega)) (by omega) (by decide) dX3_gain_7 (v := nI (zPr a b)) rfl ?_
  have f_7b := ha.pr (b := b) (by omega)
  refine z_aload_n C dX3_gain_8 0 rfl ?_
  refine z_aload_n C dX3_gain_9 0 rfl ?_
  refine z_get C inX3_gain_X3 0 wS_o rfl 2 (by decide) (C.w 1 rfl) rfl dX3_gain_10 ?_
  refine z_iload_n C dX3_gain_13 1 rfl ?_
  refine z_aald C 3 wS_bi (by omega) (by omega) dX3_gain_14 (zPt_at (by omega)) ?_
  refine z_iconst C (nI 1) dX3_gain_15 (by decide) ?_
  refine z_ialdN C (4 + b) (wS_row (b := b) (by omega)) (by omega) (by decide) dX3_gain_16 (v := nI (zBu a b)) rfl ?_
  have f_16b := ha.bu8 (b := b) (by omega)
  refine z_callV C (c_X3_reserve l g q a sm ha (zBu a b) (by omega)) (cwV 1 C.ts gX3_gain_X3_reserve rfl rfl rfl (by decide +kernel) ⟨Nat.le_of_ble_eq_true rfl, Nat.le_of_ble_eq_true rfl⟩) wS_o rfl rfl rfl (Nat.le_of_ble_eq_true rfl) dX3_gain_17 ⟨Nat.zero_le _, Nat.zero_le _⟩ (z_i ?_)
  refine z_isub C dX3_gain_20 (v := iZ (((zPr a b : Nat) : Int) - ((zRes a (zBu a b) : Nat) : Int))) (iZ_sub ((zPr a b : Nat) : Int) ((zRes a (zBu a b) : Nat) : Int)) ?_
  exact z_iretP C dX3_gain_21 rfl rfl
theorem inX3_counts_X3 : ∀ w ∈ wsX30, w ∈ wsX3_counts := fun w h => List.mem_cons_of_mem _ (List.mem_append_right _ (h))
set_option maxRecDepth 100000 in
set_option maxHeartbeats 4000000 in
theorem c_X3_counts (l : Launch) (g : zG) (q : Nat → Nat) (a : zS) (sm : Int × Nat × Nat) (ha : zOk a) (b : Nat) (hb : b < zNb a) : zM g l yX3_counts wsX3_counts { frames := 2, cells := 0, slots := 0, locals := 44 } [.ref (q 0), .int (nI b)] (wS g q a sm) (zPi (bI (zCn a (zOu a) b)) (wS g q a sm)) 0 0 := by
  refine zM.of (cc := cX3_counts) (nL := 2) (ret := (some .boolean)) (lv := [(0, .ref (q 0)), (1, .int (nI b))]) (by decide) rfl (Nat.le_of_ble_eq_true rfl) rfl ?_
  intro E C0 hi
  have C : zC g E cX3_counts RX3 wsX3_counts 2 (some .boolean) := C0
  obtain ⟨hnf, hnd, hnb, hou, hrs, hbd⟩ := id ha
  have hgb := zGn_bnd ha hb
  refine z_aload_n C dX3_counts_0 0 rfl ?_
  refine z_get C inX3_counts_X3 0 wS_o rfl 2 (by decide) (C.w 1 rfl) rfl dX3_counts_1 ?_
  refine z_iload_n C dX3_counts_4 1 rfl ?_
  refine z_aald C 3 wS_bi (by omega) (by omega) dX3_counts_5 (zPt_at (by omega)) ?_
  refine z_iconst C (nI 4) dX3_counts_6 (by decide) ?_
  refine z_ialdN C (4 + b) (wS_row (b := b) (by omega)) (by omega) (by decide) dX3_counts_7 (v := nI (zGo a b)) rfl ?_
  have f_7b := ha.go (b := b) (by omega)
  refine z_if_ne C 39 dX3_counts_8 (by decide) (zeq_N0 (by omega)) (fun c_8 => ?_) (fun c_8 => ?_)
  · skip
    refine z_iconst C (nI 0) dX3_counts_39 (by decide) ?_
    exact z_zretP C dX3_counts_40 (by simp_all [bI, zn0, zn1, zCn, zIn]) rfl
  · skip
    refine z_aload_n C dX3_counts_11 0 rfl ?_
    refine z_get C inX3_counts_X3 0 wS_o rfl 1 (by decide) (C.w 2 rfl) rfl dX3_counts_12 ?_
    refine z_aload_n C dX3_counts_15 0 rfl ?_
    refine z_get C inX3_counts_X3 0 wS_o rfl 2 (by decide) (C.w 1 rfl) rfl dX3_counts_16 ?_
    refine z_iload_n C dX3_counts_19 1 rfl ?_
    refine z_aald C 3 wS_bi (by omega) (by omega) dX3_counts_20 (zPt_at (by omega)) ?_
    refine z_iconst C (nI 0) dX3_counts_21 (by decide) ?_
    refine z_ialdN C (4 + b) (wS_row (b := b) (by omega)) (by omega) (by decide) dX3_counts_22 (v := nI (zOw a b)) rfl ?_
    have f_22b := ha.ow (b := b) (by omega)
    refine z_zaldN C 2 wS_in (by omega) (by omega) dX3_counts_23 (v := bI (zIn a (zOw a b))) rfl ?_
    refine z_if_eq C 39 dX3_counts_24 (by decide) (zeq_B0 _) (fun c_24 => ?_) (fun c_24 => ?_)
    · skip
      refine z_iconst C (nI 0) dX3_counts_39 (by decide) ?_
      exact z_zretP C dX3_counts_40 (by simp_all [bI, zn0, zn1, zCn, zIn]) rfl
    · skip
      refine z_aload_n C dX3_counts_27 0 rfl ?_
      refine z_iload_n C dX3_counts_28 1 rfl ?_
      refine z_callV C (c_X3_gain l g q a sm ha b (by omega)) (cwV 1 C.ts gX3_counts_X3_gain rfl rfl rfl (by decide +kernel) ⟨Nat.le_of_ble_eq_true rfl, Nat.le_of_ble_eq_true rfl⟩) wS_o rfl rfl rfl (Nat.le_of_ble_eq_true rfl) dX3_counts_29 ⟨Nat.zero_le _, Nat.zero_le _⟩ (z_i ?_)
      refine z_if_lt C 39 dX3_counts_32 (by decide) (zlt_Z0 (by unfold zB31; omega)) (fun c_32 => ?_) (fun c_32 => ?_)
      · skip
        refine z_iconst C (nI 0) dX3_counts_39 (by decide) ?_
        exact z_zretP C dX3_counts_40 (by simp_all [bI, zn0, zn1, zCn, zIn]) rfl
      · skip
        refine z_iconst C (nI 1) dX3_counts_35 (by decide) ?_
        refine z_goto C 40 dX3_counts_36 (by decide) ?_
        exact z_zretP C dX3_counts_40 (by simp_all [bI, zn0, zn1, zCn, zIn]) rfl
end
section
def zSmO (x : Int × Nat × Nat) : Prop := 0 ≤ x.1 ∧ x.1 ≤ 4995 ∧ x.2.1 ≤ 5 ∧ x.2.2 ≤ 10240
def zChO (who : Nat) (gi : Int) (n m : Nat) : Prop := 0 ≤ gi ∧ gi ≤ 999 * who ∧ n ≤ who ∧ m ≤ 2048 * who
def zChF (a : zS) (wo : Int) (k who tf : Nat) (gi : Int) (n m : Nat) (y : Int × Nat × Nat) (b : Nat) : Int × Nat × Nat := if zOw a b = who ∧ zCn a (zOu a) b = true ∧ zBu a b &&& tf = 0 then zCh a wo k y (who + 1) (tf ||| zBu a b) (gi + zGn a b) (n + 1) (m + 2 ^ b) else y
theorem zCh_s (a : zS) (wo : Int) (k : Nat) (x : Int × Nat × Nat) (who tf : Nat) (gi : Int) (n m : Nat) : zCh a wo (k + 1) x who tf gi n m = if (who : Int) = wo then zCh a wo k x (who + 1) tf gi n m else zChf (zChF a wo k who tf gi n m) (zNb a) (zCh a wo k x (who + 1) tf gi n m) := rfl
theorem zChf_y {a : zS} {wo : Int} {k who tf : Nat} {gi : Int} {n m i : Nat} {x1 : Int × Nat × Nat} (h : zOw a i = who ∧ zCn a (zOu a) i = true ∧ zBu a i &&& tf = 0) : zChf (zChF a wo k who tf gi n m) (i + 1) x1 = zCh a wo k (zChf (zChF a wo k who tf gi n m) i x1) (who + 1) (tf ||| zBu a i) (gi + zGn a i) (n + 1) (m + 2 ^ i) := if_pos h
theorem zChf_n {a : zS} {wo : Int} {k who tf : Nat} {gi : Int} {n m i : Nat} {x1 : Int × Nat × Nat} (h : ¬ (zOw a i = who ∧ zCn a (zOu a) i = true ∧ zBu a i &&& tf = 0)) : zChf (zChF a wo k who tf gi n m) (i + 1) x1 = zChf (zChF a wo k who tf gi n m) i x1 := if_neg h
theorem zChO_n {a : zS} (ha : zOk a) {who : Nat} {gi : Int} {n m i : Nat} (h : zChO who gi n m) (hi : i < zNb a) (hc : zCn a (zOu a) i = true) : zChO (who + 1) (gi + zGn a i) (n + 1) (m + 2 ^ i) := by
  obtain ⟨h1, h2, h3, h4⟩ := h
  have g1 := zCn_ge hc
  have g2 := zGn_bnd ha hi
  have g3 := ha.2.2.1
  have g4 : 2 ^ i ≤ 2 ^ 11 := zp2_le (by omega)
  exact ⟨by omega, by omega, by omega, by omega⟩
theorem zChO_s {who : Nat} {gi : Int} {n m : Nat} (h : zChO who gi n m) : zChO (who + 1) gi n m := by
  obtain ⟨h1, h2, h3, h4⟩ := h
  exact ⟨by omega, by omega, by omega, by omega⟩
theorem zChF_ok {a : zS} (ha : zOk a) {wo : Int} {k who tf : Nat} {gi : Int} {n m : Nat} (ih : ∀ (x : Int × Nat × Nat) (who tf : Nat) (gi : Int) (n m : Nat), who + k = zNd a → zSmO x → zChO who gi n m → zSmO (zCh a wo k x who tf gi n m)) (hk : who + (k + 1) = zNd a) (ho : zChO who gi n m) {x1 : Int × Nat × Nat} (hx1 : zSmO x1) : ∀ i, i ≤ zNb a → zSmO (zChf (zChF a wo k who tf gi n m) i x1)
  | 0, _ => hx1
  | i + 1, h => by
    have h1 := zChF_ok (tf := tf) ha ih hk ho hx1 i (by omega)
    by_cases hc : zOw a i = who ∧ zCn a (zOu a) i = true ∧ zBu a i &&& tf = 0
    · rw [zChf_y hc]
      exact ih _ _ _ _ _ _ (by omega) h1 (zChO_n ha ho (by omega) hc.2.1)
    · rw [zChf_n hc]; exact h1
theorem zCh_ok {a : zS} (ha : zOk a) (wo : Int) : ∀ (k : Nat) (x : Int × Nat × Nat) (who tf : Nat) (gi : Int) (n m : Nat), who + k = zNd a → zSmO x → zChO who gi n m → zSmO (zCh a wo k x who tf gi n m) := by
  intro k
  induction k with
  | zero =>
    intro x who tf gi n m hk hx ho
    have hnd := ha.2.1
    obtain ⟨h1, h2, h3, h4⟩ := ho
    show zSmO (zCk x (gi, n, m))
    unfold zCk
    split
    · exact hx
    · exact ⟨h1, by show gi ≤ 4995; omega, by show n ≤ 5; omega, by show m ≤ 10240; omega⟩
  | succ k ih =>
    intro x who tf gi n m hk hx ho
    have h1 := ih x (who + 1) tf gi n m (by omega) hx (zChO_s ho)
    rw [zCh_s]
    split
    · exact h1
    · exact zChF_ok ha ih hk ho h1 _ (Nat.le_refl _)
def zChM (l : Launch) (g : zG) (q : Nat → Nat) (a : zS) (wo : Int) (k : Nat) : Prop := ∀ (x : Int × Nat × Nat) (who tf : Nat) (gi : Int) (n m : Nat), who + k = zNd a → zSmO x → zChO who gi n m → zM g l yX3_choose wsX3_choose { frames := k + 3, cells := 0, slots := 0, locals := 27 * k + 65 } [.ref (q 0), .int (nI who), .int (iZ wo), .int (nI tf), .int (iZ gi), .int (nI n), .int (nI m)] (wS g q a x) (zPv (wS g q a (zCh a wo k x who tf gi n m))) 0 0
theorem inX3_choose_X3 : ∀ w ∈ wsX30, w ∈ wsX3_choose := fun w h => List.mem_cons_of_mem _ (List.mem_append_right _ (h))
set_option maxRecDepth 100000 in
set_option maxHeartbeats 4000000 in
theorem c_X3_choose_0 (l : Launch) (g : zG) (q : Nat → Nat) (a : zS) (x : Int × Nat × Nat) (ha : zOk a) (wo : Int) (hwo9 : -1 ≤ wo ∧ wo < 5) (who tf : Nat) (gi : Int) (n m : Nat) (hk : who + 0 = zNd a) (hx : zSmO x) (ho : zChO who gi n m) : zM g l yX3_choose wsX3_choose { frames := 3, cells := 0, slots := 0, locals := 65 } [.ref (q 0), .int (nI who), .int (iZ wo), .int (nI tf), .int (iZ gi), .int (nI n), .int (nI m)] (wS g q a x) (zPv (wS g q a (zCh a wo 0 x who tf gi n m))) 0 0 := by
  refine zM.of (cc := cX3_choose) (nL := 8) (ret := none) (lv := [(0, .ref (q 0)), (1, .int (nI who)), (2, .int (iZ wo)), (3, .int (nI tf)), (4, .int (iZ gi)), (5, .int (nI n)), (6, .int (nI m))]) (by decide) rfl (Nat.le_of_ble_eq_true rfl) rfl ?_
  intro E C0 hi
  have C : zC g E cX3_choose RX3 wsX3_choose 8 none := C0
  obtain ⟨hnf, hnd, hnb, hou, hrs, hbd⟩ := id ha
  obtain ⟨hx1, hx2, hx3, hx4⟩ := id hx
  obtain ⟨ho1, ho2, ho3, ho4⟩ := id ho
  show zW g l _ E (zMQ g E (zPv (wS g q a (zCk x (gi, n, m)))) 0 0) _ _ _ _ _ _ _
  refine z_iload_n C dX3_choose_0 1 rfl ?_
  refine z_aload_n C dX3_choose_1 0 rfl ?_
  refine z_get C inX3_choose_X3 0 wS_o rfl 1 (by decide) (C.w 1 rfl) rfl dX3_choose_2 ?_
  refine z_alenZ C 2 wS_in dX3_choose_5 ?_
  refine z_icmp_ne C 74 dX3_choose_6 (by decide) (zeq_NN (by omega) (by omega)) (fun h9 => absurd (by omega) h9) (fun c_6 => ?_)
  refine z_iload C dX3_choose_9 4 rfl ?_
  refine z_aload_n C dX3_choose_11 0 rfl ?_
  refine z_get C inX3_choose_X3 0 wS_o rfl 3 (by decide) (C.w 2 rfl) rfl dX3_choose_12 ?_
  refine z_icmp_lt C 54 dX3_choose_15 (by decide) (zlt_ZZ (x := gi) (y := x.1) (by unfold zB31; omega) (by unfold zB31; omega)) (fun c_15 => ?_) (fun c_15 => ?_)
  · skip
    exact z_vretP C dX3_choose_54 (by rw [show zCk x (gi, n, m) = x from if_pos (by dsimp only; omega)])
  · skip
    refine z_iload C dX3_choose_18 4 rfl ?_
    refine z_aload_n C dX3_choose_20 0 rfl ?_
    refine z_get C inX3_choose_X3 0 wS_o rfl 3 (by decide) (C.w 2 rfl) rfl dX3_choose_21 ?_
    refine z_icmp_ne C 55 dX3_choose_24 (by decide) (zeq_ZZ (x := gi) (y := x.1) (by unfold zB31; omega) (by unfold zB31; omega)) (fun c_24 => ?_) (fun c_24 => ?_)
    · skip
      refine z_aload_n C dX3_choose_55 0 rfl ?_
      refine z_iload C dX3_choose_56 4 rfl ?_
      refine z_put C inX3_choose_X3 tyX3_ok nmX3 0 wS_o rfl 3 (by decide) (C.w 2 rfl) rfl (tyX3_ok 3 (by decide)) rfl rfl (Nat.le_of_ble_eq_true rfl) dX3_choose_58 (wS_set_sum (sm := x) gi) ?_
      refine z_aload_n C dX3_choose_61 0 rfl ?_
      refine z_iload C dX3_choose_62 5 rfl ?_
      refine z_put C inX3_choose_X3 tyX3_ok nmX3 0 wS_o rfl 4 (by decide) (C.w 3 rfl) rfl (tyX3_ok 4 (by decide)) rfl rfl (Nat.le_of_ble_eq_true rfl) dX3_choose_64 (wS_set_many (sm := (gi, x.2.1, x.2.2)) n) ?_
      refine z_aload_n C dX3_choose_67 0 rfl ?_
      refine z_iload C dX3_choose_68 6 rfl ?_
      refine z_put C inX3_choose_X3 tyX3_ok nmX3 0 wS_o rfl 5 (by decide) (C.w 4 rfl) rfl (tyX3_ok 5 (by decide)) rfl rfl (Nat.le_of_ble_eq_true rfl) dX3_choose_70 (wS_set_set (sm := (gi, n, x.2.2)) m) ?_
      exact z_vretP C dX3_choose_73 (by rw [show zCk x (gi, n, m) = (gi, n, m) from if_neg (by dsimp only; omega)])
    · skip
      refine z_iload C dX3_choose_27 5 rfl ?_
      refine z_aload_n C dX3_choose_29 0 rfl ?_
      refine z_get C inX3_choose_X3 0 wS_o rfl 4 (by decide) (C.w 3 rfl) rfl dX3_choose_30 ?_
      refine z_icmp_lt C 54 dX3_choose_33 (by decide) (zlt_NN (by omega) (by omega)) (fun c_33 => ?_) (fun c_33 => ?_)
      · skip
        exact z_vretP C dX3_choose_54 (by rw [show zCk x (gi, n, m) = x from if_pos (by dsimp only; omega)])
      · skip
        refine z_iload C dX3_choose_36 5 rfl ?_
        refine z_aload_n C dX3_choose_38 0 rfl ?_
        refine z_get C inX3_choose_X3 0 wS_o rfl 4 (by decide) (C.w 3 rfl) rfl dX3_choose_39 ?_
        refine z_icmp_ne C 55 dX3_choose_42 (by decide) (zeq_NN (by omega) (by omega)) (fun c_42 => ?_) (fun c_42 => ?_)
        · skip
          refine z_aload_n C dX3_choose_55 0 rfl ?_
          refine z_iload C dX3_choose_56 4 rfl ?_
          refine z_put C inX3_choose_X3 tyX3_ok nmX3 0 wS_o rfl 3 (by decide) (C.w 2 rfl) rfl (tyX3_ok 3 (by decide)) rfl rfl (Nat.le_of_ble_eq_true rfl) dX3_choose_58 (wS_set_sum (sm := x) gi) ?_
          refine z_aload_n C dX3_choose_61 0 rfl ?_
          refine z_iload C dX3_choose_62 5 rfl ?_
          refine z_put C inX3_choose_X3 tyX3_ok nmX3 0 wS_o rfl 4 (by decide) (C.w 3 rfl) rfl (tyX3_ok 4 (by decide)) rfl rfl (Nat.le_of_ble_eq_true rfl) dX3_choose_64 (wS_set_many (sm := (gi, x.2.1, x.2.2)) n) ?_
          refine z_aload_n C dX3_choose_67 0 rfl ?_
          refine z_iload C dX3_choose_68 6 rfl ?_
          refine z_put C inX3_choose_X3 tyX3_ok nmX3 0 wS_o rfl 5 (by decide) (C.w 4 rfl) rfl (tyX3_ok 5 (by decide)) rfl rfl (Nat.le_of_ble_eq_true rfl) dX3_choose_70 (wS_set_set (sm := (gi, n, x.2.2)) m) ?_
          exact z_vretP C dX3_choose_73 (by rw [show zCk x (gi, n, m) = (gi, n, m) from if_neg (by dsimp only; omega)])
        · skip
          refine z_iload C dX3_choose_45 6 rfl ?_
          refine z_aload_n C dX3_choose_47 0 rfl ?_
          refine z_get C inX3_choose_X3 0 wS_o rfl 5 (by decide) (C.w 4 rfl) rfl dX3_choose_48 ?_
          refine z_icmp_le C 55 dX3_choose_51 (by decide) (zle_NN (by omega) (by omega)) (fun c_51 => ?_) (fun c_51 => ?_)
          · skip
            refine z_aload_n C dX3_choose_55 0 rfl ?_
            refine z_iload C dX3_choose_56 4 rfl ?_
            refine z_put C inX3_choose_X3 tyX3_ok nmX3 0 wS_o rfl 3 (by decide) (C.w 2 rfl) rfl (tyX3_ok 3 (by decide)) rfl rfl (Nat.le_of_ble_eq_true rfl) dX3_choose_58 (wS_set_sum (sm := x) gi) ?_
            refine z_aload_n C dX3_choose_61 0 rfl ?_
            refine z_iload C dX3_choose_62 5 rfl ?_
            refine z_put C inX3_choose_X3 tyX3_ok nmX3 0 wS_o rfl 4 (by decide) (C.w 3 rfl) rfl (tyX3_ok 4 (by decide)) rfl rfl (Nat.le_of_ble_eq_true rfl) dX3_choose_64 (wS_set_many (sm := (gi, x.2.1, x.2.2)) n) ?_
            refine z_aload_n C dX3_choose_67 0 rfl ?_
            refine z_iload C dX3_choose_68 6 rfl ?_
            refine z_put C inX3_choose_X3 tyX3_ok nmX3 0 wS_o rfl 5 (by decide) (C.w 4 rfl) rfl (tyX3_ok 5 (by decide)) rfl rfl (Nat.le_of_ble_eq_true rfl) dX3_choose_70 (wS_set_set (sm := (gi, n, x.2.2)) m) ?_
            exact z_vretP C dX3_choose_73 (by rw [show zCk x (gi, n, m) = (gi, n, m) from if_neg (by dsimp only; omega)])
          · skip
            exact z_vretP C dX3_choose_54 (by rw [show zCk x (gi, n, m) = x from if_pos (by dsimp only; omega)])
set_option maxRecDepth 100000 in
set_option maxHeartbeats 4000000 in
theorem c_X3_choose_s (l : Launch) (g : zG) (q : Nat → Nat) (a : zS) (x : Int × Nat × Nat) (ha : zOk a) (wo : Int) (hwo9 : -1 ≤ wo ∧ wo < 5) (who tf : Nat) (gi : Int) (n m : Nat) (k : Nat) (hk : who + (k + 1) = zNd a) (hx : zSmO x) (ho : zChO who gi n m) (hC : zChM l g q a wo k) : zM g l yX3_choose wsX3_choose { frames := (k + 1) + 3, cells := 0, slots := 0, locals := 27 * (k + 1) + 65 } [.ref (q 0), .int (nI who), .int (iZ wo), .int (nI tf), .int (iZ gi), .int (nI n), .int (nI m)] (wS g q a x) (zPv (wS g q a (zCh a wo (k + 1) x who tf gi n m))) 0 0 := by
  refine zM.of (cc := cX3_choose) (nL := 8) (ret := none) (lv := [(0, .ref (q 0)), (1, .int (nI who)), (2, .int (iZ wo)), (3, .int (nI tf)), (4, .int (iZ gi)), (5, .int (nI n)), (6, .int (nI m))]) (by decide) rfl (Nat.le_of_ble_eq_true rfl) rfl ?_
  intro E C0 hi
  have C : zC g E cX3_choose RX3 wsX3_choose 8 none := C0
  obtain ⟨hnf, hnd, hnb, hou, hrs, hbd⟩ := id ha
  obtain ⟨hx1, hx2, hx3, hx4⟩ := id hx
  obtain ⟨ho1, ho2, ho3, ho4⟩ := id ho
  refine z_iload_n C dX3_choose_0 1 rfl ?_
  refine z_aload_n C dX3_choose_1 0 rfl ?_
  refine z_get C inX3_choose_X3 0 wS_o rfl 1 (by decide) (C.w 1 rfl) rfl dX3_choose_2 ?_
  refine z_alenZ C 2 wS_in dX3_choose_5 ?_
  refine z_icmp_ne C 74 dX3_choose_6 (by decide) (zeq_NN (by omega) (by omega)) (fun c_6 => ?_) (fun h9 => absurd h9 (by omega))
  refine z_aload_n C dX3_choose_74 0 rfl ?_
  refine z_iload_n C dX3_choose_75 1 rfl ?_
  refine z_iconst C (nI 1) dX3_choose_76 (by decide) ?_
  refine z_iadd C dX3_choose_77 (v := nI (who + 1)) (nI_add who 1) ?_
  refine z_iload_n C dX3_choose_78 2 rfl ?_
  refine z_iload_n C dX3_choose_79 3 rfl ?_
  refine z_iload C dX3_choose_80 4 rfl ?_
  refine z_iload C dX3_choose_82 5 rfl ?_
  refine z_iload C dX3_choose_84 6 rfl ?_
  refine z_callV C (hC x (who + 1) tf gi n m (by omega) hx (zChO_s ho)) (cwV 6 C.ts gX3_choose_X3_choose rfl rfl rfl (by decide +kernel) ⟨by dsimp only; omega, by dsimp only; omega⟩) wS_o rfl rfl rfl (Nat.le_of_ble_eq_true rfl) dX3_choose_86 ⟨Nat.zero_le _, Nat.zero_le _⟩ (z_v ?_)
  obtain ⟨x1, he1⟩ : ∃ x1, x1 = zCh a wo k x (who + 1) tf gi n m := ⟨_, rfl⟩
  rw [← he1]
  have hx9 : zSmO x1 := by rw [he1]; exact zCh_ok ha wo k x (who + 1) tf gi n m (by omega) hx (zChO_s ho)
  by_cases hwo : ((who : Nat) : Int) = wo
  · skip
    refine z_iconst C (nI 0) dX3_choose_89 (by decide) ?_
    refine z_istore C dX3_choose_90 (by decide) [(7, .int (nI 0)), (0, .ref (q 0)), (1, .int (nI who)), (2, .int (iZ wo)), (3, .int (nI tf)), (4, .int (iZ gi)), (5, .int (nI n)), (6, .int (nI m))] rfl ?_
    refine z_iload C dX3_choose_92 0 rfl ?_
    refine z_aload_n C dX3_choose_94 1 rfl ?_
    refine z_get C inX3_choose_X3 0 wS_o rfl 2 (by decide) (C.w 5 rfl) rfl dX3_choose_95 ?_
    refine z_alenR C 3 wS_bi dX3_choose_98 ?_
    refine z_icmp_ge C 188 dX3_choose_99 (by decide) (zle_NN (by omega) (by omega)) (fun c_99 => ?_) (fun c_99 => ?_)
    · skip
      exact z_vretP C dX3_choose_188 (by rw [zCh_s, if_pos hwo, he1])
    · skip
      refine z_iload_n C dX3_choose_102 2 rfl ?_
      refine z_iload_n C dX3_choose_103 3 rfl ?_
      refine z_icmp_eq C 188 dX3_choose_104 (by decide) (zeq_ZZ (x := ((who : Nat) : Int)) (y := wo) (by unfold zB31; omega) (by unfold zB31; omega)) (fun c_104 => ?_) (fun h9 => absurd hwo h9)
      exact z_vretP C dX3_choose_188 (by rw [zCh_s, if_pos hwo, he1])
  · skip
    refine z_iconst C (nI 0) dX3_choose_89 (by decide) ?_
    refine z_istore C dX3_choose_90 (by decide) [(7, .int (nI 0)), (0, .ref (q 0)), (1, .int (nI who)), (2, .int (iZ wo)), (3, .int (nI tf)), (4, .int (iZ gi)), (5, .int (nI n)), (6, .int (nI m))] rfl ?_
    refine zW.pick (lv' := [(0, .ref (q 0)), (1, .int (nI who)), (2, .int (iZ wo)), (3, .int (nI tf)), (4, .int (iZ gi)), (5, .int (nI n)), (6, .int (nI m)), (7, .int (nI 0))]) [1, 2, 3, 4, 5, 6, 7, 0] rfl ?_
    have hlp92 : ∀ (kk i : Nat), i + kk = zNb a → zW g l ({ frames := (k + 1) + 3, cells := 0, slots := 0, locals := 27 * (k + 1) + 65 }) E (zMQ g E (zPv (wS g q a (zCh a wo (k + 1) x who tf gi n m))) 0 0) 8 0 0 (wS g q a (zChf (zChF a wo k who tf gi n m) i x1)) [(0, .ref (q 0)), (1, .int (nI who)), (2, .int (iZ wo)), (3, .int (nI tf)), (4, .int (iZ gi)), (5, .int (nI n)), (6, .int (nI m)), (7, .int (nI i))] [] 92 := by
      intro kk
      induction kk with
      | zero =>
        intro i hik
        refine z_iload C dX3_choose_92 7 rfl ?_
        refine z_aload_n C dX3_choose_94 0 rfl ?_
        refine z_get C inX3_choose_X3 0 wS_o rfl 2 (by decide) (C.w 5 rfl) rfl dX3_choose_95 ?_
        refine z_alenR C 3 wS_bi dX3_choose_98 ?_
        refine z_icmp_ge C 188 dX3_choose_99 (by decide) (zle_NN (by omega) (by omega)) (fun c_99 => ?_) (fun h9 => absurd (by omega) h9)
        exact z_vretP C dX3_choose_188 (by rw [zCh_s, if_neg hwo, he1, show i = zNb a by omega])
      | succ kk ih92 =>
        intro i hik
        have hxi : zSmO (zChf (zChF a wo k who tf gi n m) i x1) := zChF_ok ha (zCh_ok ha wo k) hk ho hx9 i (by omega)
        refine z_iload C dX3_choose_92 7 rfl ?_
        refine z_aload_n C dX3_choose_94 0 rfl ?_
        refine z_get C inX3_choose_X3 0 wS_o rfl 2 (by decide) (C.w 5 rfl) rfl dX3_choose_95 ?_
        refine z_alenR C 3 wS_bi dX3_choose_98 ?_
        refine z_icmp_ge C 188 dX3_choose_99 (by decide) (zle_NN (by omega) (by omega)) (fun h9 => absurd h9 (by omega)) (fun c_99 => ?_)
        refine z_iload_n C dX3_choose_102 1 rfl ?_
        refine z_iload_n C dX3_choose_103 2 rfl ?_
        refine z_icmp_eq C 188 dX3_choose_104 (by decide) (zeq_ZZ (x := ((who : Nat) : Int)) (y := wo) (by unfold zB31; omega) (by unfold zB31; omega)) (fun h9 => absurd h9 hwo) (fun c_104 => ?_)
        refine z_aload_n C dX3_choose_107 0 rfl ?_
        refine z_get C inX3_choose_X3 0 wS_o rfl 2 (by decide) (C.w 5 rfl) rfl dX3_choose_108 ?_
        refine z_iload C dX3_choose_111 7 rfl ?_
        refine z_aald C 3 wS_bi (by omega) (by omega) dX3_choose_113 (zPt_at (by omega)) ?_
        refine z_iconst C (nI 0) dX3_choose_114 (by decide) ?_
        refine z_ialdN C (4 + i) (wS_row (b := i) (by omega)) (by omega) (by decide) dX3_choose_115 (v := nI (zOw a i)) rfl ?_
        have f_115b := ha.ow (b := i) (by omega)
        refine z_iload_n C dX3_choose_116 1 rfl ?_
        refine z_icmp_ne C 182 dX3_choose_117 (by decide) (zeq_NN (by omega) (by omega)) (fun c_117 => ?_) (fun c_117 => ?_)
        · skip
          refine z_iinc C dX3_choose_182 7 (nI (i + 1)) rfl (nI_add i 1) (by decide) [(7, .int (nI (i + 1))), (0, .ref (q 0)), (1, .int (nI who)), (2, .int (iZ wo)), (3, .int (nI tf)), (4, .int (iZ gi)), (5, .int (nI n)), (6, .int (nI m))] rfl ?_
          refine z_goto C 92 dX3_choose_185 (by decide) ?_
          refine zW.pick (lv' := [(0, .ref (q 0)), (1, .int (nI who)), (2, .int (iZ wo)), (3, .int (nI tf)), (4, .int (iZ gi)), (5, .int (nI n)), (6, .int (nI m)), (7, .int (nI (i + 1)))]) [1, 2, 3, 4, 5, 6, 7, 0] rfl ?_
          refine zW.eqw (ws2 := wS g q a (zChf (zChF a wo k who tf gi n m) (i + 1) x1)) (by rw [zChf_n (by simp_all)]) ?_
          exact ih92 (i + 1) (by omega)
        · skip
          refine z_aload_n C dX3_choose_120 0 rfl ?_
          refine z_iload C dX3_choose_121 7 rfl ?_
          refine z_callV C (c_X3_counts l g q a (zChf (zChF a wo k who tf gi n m) i x1) ha i (by omega)) (cwV 1 C.ts gX3_choose_X3_counts rfl rfl rfl (by decide +kernel) ⟨by dsimp only; omega, by dsimp only; omega⟩) wS_o rfl rfl rfl (Nat.le_of_ble_eq_true rfl) dX3_choose_123 ⟨Nat.zero_le _, Nat.zero_le _⟩ (z_i ?_)
          refine z_if_eq C 182 dX3_choose_126 (by decide) (zeq_B0 _) (fun c_126 => ?_) (fun c_126 => ?_)
          · skip
            refine z_iinc C dX3_choose_182 7 (nI (i + 1)) rfl (nI_add i 1) (by decide) [(7, .int (nI (i + 1))), (0, .ref (q 0)), (1, .int (nI who)), (2, .int (iZ wo)), (3, .int (nI tf)), (4, .int (iZ gi)), (5, .int (nI n)), (6, .int (nI m))] rfl ?_
            refine z_goto C 92 dX3_choose_185 (by decide) ?_
            refine zW.pick (lv' := [(0, .ref (q 0)), (1, .int (nI who)), (2, .int (iZ wo)), (3, .int (nI tf)), (4, .int (iZ gi)), (5, .int (nI n)), (6, .int (nI m)), (7, .int (nI (i + 1)))]) [1, 2, 3, 4, 5, 6, 7, 0] rfl ?_
            refine zW.eqw (ws2 := wS g q a (zChf (zChF a wo k who tf gi n m) (i + 1) x1)) (by rw [zChf_n (by simp_all)]) ?_
            exact ih92 (i + 1) (by omega)
          · skip
            refine z_aload_n C dX3_choose_129 0 rfl ?_
            refine z_get C inX3_choose_X3 0 wS_o rfl 2 (by decide) (C.w 5 rfl) rfl dX3_choose_130 ?_
            refine z_iload C dX3_choose_133 7 rfl ?_
            refine z_aald C 3 wS_bi (by omega) (by omega) dX3_choose_135 (zPt_at (by omega)) ?_
            refine z_iconst C (nI 1) dX3_choose_136 (by decide) ?_
            refine z_ialdN C (4 + i) (wS_row (b := i) (by omega)) (by omega) (by decide) dX3_choose_137 (v := nI (zBu a i)) rfl ?_
            have f_137b := ha.bu8 (b := i) (by omega)
            refine z_iload_n C dX3_choose_138 3 rfl ?_
            refine z_iand C dX3_choose_139 (v := nI ((zBu a i) &&& tf)) (zand_NN (zBu a i) tf) ?_
            refine z_if_ne C 182 dX3_choose_140 (by decide) (zeq_N0 (by have : zBu a i &&& tf ≤ zBu a i := Nat.and_le_left; have := ha.bu8 (b := i) (by omega); omega)) (fun c_140 => ?_) (fun c_140 => ?_)
            · skip
              refine z_iinc C dX3_choose_182 7 (nI (i + 1)) rfl (nI_add i 1) (by decide) [(7, .int (nI (i + 1))), (0, .ref (q 0)), (1, .int (nI who)), (2, .int (iZ wo)), (3, .int (nI tf)), (4, .int (iZ gi)), (5, .int (nI n)), (6, .int (nI m))] rfl ?_
              refine z_goto C 92 dX3_choose_185 (by decide) ?_
              refine zW.pick (lv' := [(0, .ref (q 0)), (1, .int (nI who)), (2, .int (iZ wo)), (3, .int (nI tf)), (4, .int (iZ gi)), (5, .int (nI n)), (6, .int (nI m)), (7, .int (nI (i + 1)))]) [1, 2, 3, 4, 5, 6, 7, 0] rfl ?_
              refine zW.eqw (ws2 := wS g q a (zChf (zChF a wo k who tf gi n m) (i + 1) x1)) (by rw [zChf_n (by simp_all)]) ?_
              exact ih92 (i + 1) (by omega)
            · skip
              refine z_aload_n C dX3_choose_143 0 rfl ?_
              refine z_iload_n C dX3_choose_144 1 rfl ?_
              refine z_iconst C (nI 1) dX3_choose_145 (by decide) ?_
              refine z_iadd C dX3_choose_146 (v := nI (who + 1)) (nI_add who 1) ?_
              refine z_iload_n C dX3_choose_147 2 rfl ?_
              refine z_iload_n C dX3_choose_148 3 rfl ?_
              refine z_aload_n C dX3_choose_149 0 rfl ?_
              refine z_get C inX3_choose_X3 0 wS_o rfl 2 (by decide) (C.w 5 rfl) rfl dX3_choose_150 ?_
              refine z_iload C dX3_choose_153 7 rfl ?_
              refine z_aald C 3 wS_bi (by omega) (by omega) dX3_choose_155 (zPt_at (by omega)) ?_
              refine z_iconst C (nI 1) dX3_choose_156 (by decide) ?_
              refine z_ialdN C (4 + i) (wS_row (b := i) (by omega)) (by omega) (by decide) dX3_choose_157 (v := nI (zBu a i)) rfl ?_
              have f_157b := ha.bu8 (b := i) (by omega)
              refine z_ior C dX3_choose_158 (v := nI (tf ||| (zBu a i))) (zor_NN tf (zBu a i)) ?_
              refine z_iload C dX3_choose_159 4 rfl ?_
              refine z_aload_n C dX3_choose_161 0 rfl ?_
              refine z_iload C dX3_choose_162 7 rfl ?_
              refine z_callV C (c_X3_gain l g q a (zChf (zChF a wo k who tf gi n m) i x1) ha i (by omega)) (cwV 1 C.ts gX3_choose_X3_gain rfl rfl rfl (by decide +kernel) ⟨by dsimp only; omega, by dsimp only; omega⟩) wS_o rfl rfl rfl (Nat.le_of_ble_eq_true rfl) dX3_choose_164 ⟨Nat.zero_le _, Nat.zero_le _⟩ (z_i ?_)
              refine z_iadd C dX3_choose_167 (v := iZ (gi + (zGn a i))) (iZ_add gi (zGn a i)) ?_
              refine z_iload C dX3_choose_168 5 rfl ?_
              refine z_iconst C (nI 1) dX3_choose_170 (by decide) ?_
              refine z_iadd C dX3_choose_171 (v := nI (n + 1)) (nI_add n 1) ?_
              refine z_iload C dX3_choose_172 6 rfl ?_
              refine z_iconst C (nI 1) dX3_choose_174 (by decide) ?_
              refine z_iload C dX3_choose_175 7 rfl ?_
              refine z_ishl C dX3_choose_177 (v := nI (2 ^ i)) (zshl_1N (by omega)) ?_
              refine z_iadd C dX3_choose_178 (v := nI (m + (2 ^ i))) (nI_add m (2 ^ i)) ?_
              refine z_callV C (hC (zChf (zChF a wo k who tf gi n m) i x1) (who + 1) (tf ||| zBu a i) (gi + zGn a i) (n + 1) (m + 2 ^ i) (by omega) hxi (zChO_n ha ho (by omega) (by simpa using c_126))) (cwV 6 C.ts gX3_choose_X3_choose rfl rfl rfl (by decide +kernel) ⟨by dsimp only; omega, by dsimp only; omega⟩) wS_o rfl rfl rfl (Nat.le_of_ble_eq_true rfl) dX3_choose_179 ⟨Nat.zero_le _, Nat.zero_le _⟩ (z_v ?_)
              refine z_iinc C dX3_choose_182 7 (nI (i + 1)) rfl (nI_add i 1) (by decide) [(7, .int (nI (i + 1))), (0, .ref (q 0)), (1, .int (nI who)), (2, .int (iZ wo)), (3, .int (nI tf)), (4, .int (iZ gi)), (5, .int (nI n)), (6, .int (nI m))] rfl ?_
              refine z_goto C 92 dX3_choose_185 (by decide) ?_
              refine zW.pick (lv' := [(0, .ref (q 0)), (1, .int (nI who)), (2, .int (iZ wo)), (3, .int (nI tf)), (4, .int (iZ gi)), (5, .int (nI n)), (6, .int (nI m)), (7, .int (nI (i + 1)))]) [1, 2, 3, 4, 5, 6, 7, 0] rfl ?_
              refine zW.eqw (ws2 := wS g q a (zChf (zChF a wo k who tf gi n m) (i + 1) x1)) (by rw [zChf_y ⟨c_117, by simpa using c_126, c_140⟩]) ?_
              exact ih92 (i + 1) (by omega)
    exact hlp92 (zNb a) 0 (by omega)
theorem zChM_all (l : Launch) (g : zG) (q : Nat → Nat) (a : zS) (ha : zOk a) (wo : Int) (hwo9 : -1 ≤ wo ∧ wo < 5) : ∀ k, zChM l g q a wo k := by
  intro k
  induction k with
  | zero => exact fun x who tf gi n m hk hx ho => c_X3_choose_0 l g q a x ha wo hwo9 who tf gi n m hk hx ho
  | succ k ih => exact fun x who tf gi n m hk hx ho => c_X3_choose_s l g q a x ha wo hwo9 who tf gi n m k hk hx ho ih
theorem inX3_sale_X3 : ∀ w ∈ wsX30, w ∈ wsX3_sale := fun w h => List.mem_cons_of_mem _ (List.mem_append_right _ (h))
set_option maxRecDepth 100000 in
set_option maxHeartbeats 4000000 in
theorem c_X3_sale (l : Launch) (g : zG) (q : Nat → Nat) (a : zS) (sm : Int × Nat × Nat) (ha : zOk a) (wo : Int) (hwo9 : -1 ≤ wo ∧ wo < 5) (y : Int × Nat) (hy : zCh a wo (zNd a) (0, 0, 0) 0 0 0 0 0 = zT3 y) : zM g l yX3_sale wsX3_sale { frames := 9, cells := 0, slots := 0, locals := 227 } [.ref (q 0), .int (iZ wo)] (wS g q a sm) (zPi (nI y.2) (wS g q a (zT3 y))) 0 0 := by
  refine zM.of (cc := cX3_sale) (nL := 2) (ret := (some .int)) (lv := [(0, .ref (q 0)), (1, .int (iZ wo))]) (by decide) rfl (Nat.le_of_ble_eq_true rfl) rfl ?_
  intro E C0 hi
  have C : zC g E cX3_sale RX3 wsX3_sale 2 (some .int) := C0
  obtain ⟨hnf, hnd, hnb, hou, hrs, hbd⟩ := id ha
  refine z_aload_n C dX3_sale_0 0 rfl ?_
  refine z_iconst C (nI 0) dX3_sale_1 (by decide) ?_
  refine z_put C inX3_sale_X3 tyX3_ok nmX3 0 wS_o rfl 3 (by decide) (C.w 1 rfl) rfl (tyX3_ok 3 (by decide)) rfl rfl (Nat.le_of_ble_eq_true rfl) dX3_sale_2 (wS_set_sum (sm := sm) 0) ?_
  refine z_aload_n C dX3_sale_5 0 rfl ?_
  refine z_iconst C (nI 0) dX3_sale_6 (by decide) ?_
  refine z_put C inX3_sale_X3 tyX3_ok nmX3 0 wS_o rfl 4 (by decide) (C.w 2 rfl) rfl (tyX3_ok 4 (by decide)) rfl rfl (Nat.le_of_ble_eq_true rfl) dX3_sale_7 (wS_set_many (sm := (0, sm.2.1, sm.2.2)) 0) ?_
  refine z_aload_n C dX3_sale_10 0 rfl ?_
  refine z_iconst C (nI 0) dX3_sale_11 (by decide) ?_
  refine z_put C inX3_sale_X3 tyX3_ok nmX3 0 wS_o rfl 5 (by decide) (C.w 3 rfl) rfl (tyX3_ok 5 (by decide)) rfl rfl (Nat.le_of_ble_eq_true rfl) dX3_sale_12 (wS_set_set (sm := (0, 0, sm.2.2)) 0) ?_
  refine z_aload_n C dX3_sale_15 0 rfl ?_
  refine z_iconst C (nI 0) dX3_sale_16 (by decide) ?_
  refine z_iload_n C dX3_sale_17 1 rfl ?_
  refine z_iconst C (nI 0) dX3_sale_18 (by decide) ?_
  refine z_iconst C (nI 0) dX3_sale_19 (by decide) ?_
  refine z_iconst C (nI 0) dX3_sale_20 (by decide) ?_
  refine z_iconst C (nI 0) dX3_sale_21 (by decide) ?_
  refine z_callV C (zChM_all l g q a ha wo hwo9 (zNd a) (0, 0, 0) 0 0 0 0 0 (by omega) ⟨by decide, by decide, by decide, by decide⟩ ⟨by decide, by decide, by decide, by decide⟩) (cwV 6 C.ts gX3_sale_X3_choose rfl rfl rfl (by decide +kernel) ⟨by dsimp only; omega, by dsimp only; omega⟩) wS_o rfl rfl rfl (Nat.le_of_ble_eq_true rfl) dX3_sale_22 ⟨Nat.zero_le _, Nat.zero_le _⟩ (z_v ?_)
  rw [hy]
  refine z_aload_n C dX3_sale_25 0 rfl ?_
  refine z_get C inX3_sale_X3 0 wS_o rfl 5 (by decide) (C.w 3 rfl) rfl dX3_sale_26 ?_
  exact z_iretP C dX3_sale_29 rfl rfl
end
section
theorem zFst_spec (p : Nat → Bool) : ∀ (k i : Nat), (zFst p i k = -1 ∧ ∀ c, i ≤ c → c < i + k → p c = false) ∨ ∃ c, i ≤ c ∧ c < i + k ∧ zFst p i k = (c : Int) ∧ p c = true
  | 0, i => Or.inl ⟨rfl, fun c h1 h2 => absurd h2 (by omega)⟩
  | k + 1, i => by
    unfold zFst
    by_cases h : p i = true
    · rw [if_pos h]; exact Or.inr ⟨i, Nat.le_refl i, by omega, rfl, h⟩
    · rw [if_neg h]
      rcases zFst_spec p k (i + 1) with ⟨e, h1⟩ | ⟨c, h1, h2, h3, h4⟩
      · refine Or.inl ⟨e, fun c g1 g2 => ?_⟩
        by_cases hc : c = i
        · rw [hc]; simpa using h
        · exact h1 c (by omega) (by omega)
      · exact Or.inr ⟨c, by omega, by omega, h3, h4⟩
theorem zLw_spec (a : zS) (m e : Nat) : ∀ n, (zLw a m n e = -1 ∧ ∀ c, c < n → ¬ (m.testBit c = true ∧ zOw a c = e)) ∨ ∃ c, c < n ∧ zLw a m n e = (c : Int) ∧ m.testBit c = true ∧ zOw a c = e
  | 0 => Or.inl ⟨rfl, fun c h => absurd h (by omega)⟩
  | n + 1 => by
    unfold zLw
    by_cases h : m.testBit n = true ∧ zOw a n = e
    · rw [if_pos h]; exact Or.inr ⟨n, by omega, rfl, h⟩
    · rw [if_neg h]
      rcases zLw_spec a m e n with ⟨g, h1⟩ | ⟨c, h1, h2⟩
      · refine Or.inl ⟨g, fun c g1 => ?_⟩
        by_cases hc : c = n
        · rw [hc]; exact h
        · exact h1 c (by omega)
      · exact Or.inr ⟨c, by omega, h2⟩
theorem zLp_of (a : zS) (ab e : Nat) : ∀ n, zLp a ab n e = if zLw a (zFw a ab).2 n e = -1 then 0 else (zRes a (zBu a (zLw a (zFw a ab).2 n e).toNat) : Int) + zGw a ab e - ((zFw a ab).1 - zGn a (zLw a (zFw a ab).2 n e).toNat)
  | 0 => rfl
  | n + 1 => by
    unfold zLp zLw
    split
    · rw [if_neg (by omega)]; rfl
    · exact zLp_of a ab e n
def mMx (a : zS) (f : Nat) (p : Nat → Bool) : Nat → Nat
  | 0 => zRs a f
  | n + 1 => if p n = true then max (mMx a f p n) (zPr a n) else mMx a f p n
theorem mMx_eq {a : zS} {f : Nat} {p : Nat → Bool} (hp : ∀ b, p b = true → zRs a f ≤ zPr a b) : ∀ n, (mMx a f p n : Int) = if zHi a p n = -1 then (zRs a f : Int) else (zPr a (zHi a p n).toNat : Int)
  | 0 => rfl
  | n + 1 => by
    have ih := mMx_eq hp n
    have hM : mMx a f p (n + 1) = if p n = true then max (mMx a f p n) (zPr a n) else mMx a f p n := rfl
    rw [hM]
    by_cases hpn : p n = true
    · rw [if_pos hpn]
      have h1 := hp n hpn
      rcases zHi_or a p n with e | ⟨c, hc, e, hpc⟩
      · have hz : zHi a p (n + 1) = (n : Int) := if_pos ⟨hpn, Or.inl e⟩
        rw [hz, if_neg (by omega)]
        rw [e, if_pos rfl] at ih
        have ih : mMx a f p n = zRs a f := by omega
        rw [ih, Nat.max_eq_right h1]; rfl
      · rw [e, if_neg (by omega)] at ih
        have ih : mMx a f p n = zPr a c := by
          have : ((c : Int)).toNat = c := rfl
          rw [this] at ih; omega
        by_cases h2 : zPr a c < zPr a n
        · have hz : zHi a p (n + 1) = (n : Int) := if_pos ⟨hpn, Or.inr (by rw [e]; exact h2)⟩
          rw [hz, if_neg (by omega), ih, Nat.max_eq_right (by omega)]; rfl
        · have hz : zHi a p (n + 1) = (c : Int) := by
            show (if p n = true ∧ (zHi a p n = -1 ∨ zPr a (zHi a p n).toNat < zPr a n) then (n : Int) else zHi a p n) = _
            rw [e, if_neg]
            rintro ⟨-, q | q⟩
            · omega
            · exact h2 q
          rw [hz, if_neg (by omega), ih, Nat.max_eq_left (by omega)]; rfl
    · have hz : zHi a p (n + 1) = zHi a p n := if_neg (fun h => hpn h.1)
      rw [if_neg hpn, hz]
      exact ih
theorem zRes_one {a : zS} {f : Nat} (hf : f < zNf a) : zRes a (2 ^ f) = zRs a f := by
  unfold zRes
  have h : ∀ n, zSum (fun i => if (2 ^ f).testBit i = true then zRs a i else 0) n = if f < n then zRs a f else 0 := by
    intro n
    induction n with
    | zero => rfl
    | succ n ih =>
      unfold zSum
      rw [ih, Nat.testBit_two_pow]
      by_cases h : f < n
      · rw [if_pos h, if_neg (by simp; omega), if_pos (by omega)]; omega
      · rw [if_neg h]
        by_cases h2 : f = n
        · subst h2; simp
        · rw [if_neg (by simp; omega), if_neg (by omega)]
  rw [h, if_pos hf]
theorem zCo_ge {a : zS} {f b : Nat} {lo : Int} (hf : f < zNf a) (h : zCo a f lo b = true) : zRs a f ≤ zPr a b := by
  unfold zCo at h
  simp only [Bool.and_eq_true, decide_eq_true_eq] at h
  have h1 := zCn_ge h.1
  unfold zGn at h1
  rw [h.2.1, zRes_one hf] at h1
  omega
def zWnP (a : zS) (d : Nat) : Nat → Bool := fun b => (zFw a 0).2.testBit b && decide (zOw a b = d)
/-- of the bids that win, a bidder has one at most -/
theorem zFw_one {a : zS} (ha : zOk a) {b c : Nat} (hb : (zFw a 0).2.testBit b = true) (hc : (zFw a 0).2.testBit c = true) (h : zOw a b = zOw a c) : b = c := by
  by_cases e : b = c
  · exact e
  · exact absurd h ((zFw_top ha 0).2.1.2.2 b c hb hc e).1
theorem aWin_of {a : zS} (ha : zOk a) {c : Nat} (hc : (zFw a 0).2.testBit c = true) : aWin a (zOw a c) = (c : Int) := by
  have h1 := zbit_lt (zFw_lt ha 0) hc
  unfold aWin
  rcases zLw_spec a (zFw a 0).2 (zOw a c) (zNb a) with ⟨e, h⟩ | ⟨c2, h2, e, h3, h4⟩
  · exact absurd ⟨hc, rfl⟩ (h c h1)
  · rw [e, zFw_one ha h3 hc h4]
theorem zWn_win {a : zS} (ha : zOk a) (d : Nat) : zFst (zWnP a d) 0 (zNb a) = aWin a d := by
  rcases zFst_spec (zWnP a d) (zNb a) 0 with ⟨e1, h1⟩ | ⟨c, -, h1, e1, h2⟩
  · rw [e1]
    unfold aWin
    rcases zLw_spec a (zFw a 0).2 d (zNb a) with ⟨e2, -⟩ | ⟨c2, g1, e2, g2, g3⟩
    · rw [e2]
    · have h9 := h1 c2 (Nat.zero_le _) (by omega)
      unfold zWnP at h9
      simp [g2, g3] at h9
  · unfold zWnP at h2
    simp only [Bool.and_eq_true, decide_eq_true_eq] at h2
    rw [e1, ← h2.2, aWin_of ha h2.1]
theorem aWin_or {a : zS} (d : Nat) : aWin a d = -1 ∨ ∃ c, c < zNb a ∧ aWin a d = (c : Int) ∧ (zFw a 0).2.testBit c = true ∧ zOw a c = d := zLw_or a _ d _
theorem aPaid_n {a : zS} {d : Nat} (h : aWin a d = -1) : aPaid a d = 0 := by
  unfold aPaid
  rw [zLp_of]
  exact if_pos h
theorem aPaid_y {a : zS} {d c : Nat} (hd : d < zNd a) (h : aWin a d = (c : Int)) : aPaid a d = (zRes a (zBu a c) : Int) + (zFw a (2 ^ d)).1 - ((zFw a 0).1 - zGn a c) := by
  have h1 : zLw a (zFw a 0).2 (zNb a) d = (c : Int) := h
  unfold aPaid
  rw [zLp_of, h1, if_neg (by omega)]
  unfold zGw
  rw [if_pos hd, Nat.zero_or]
  rfl
def zSim (g : zG) (q : Nat → Nat) (a : zS) : va_W → Prop := fun w' => ∃ sm : Int × Nat × Nat, w' = wS g q a sm
theorem inX3_won_X3 : ∀ w ∈ wsX30, w ∈ wsX3_won := fun w h => List.mem_cons_of_mem _ (List.mem_append_right _ (h))
set_option maxRecDepth 100000 in
set_option maxHeartbeats 4000000 in
theorem c_X3_won (l : Launch) (g : zG) (q : Nat → Nat) (a : zS) (sm : Int × Nat × Nat) (ha : zOk a) (d : Nat) (hd : d < zNd a) : zM g l yX3_won wsX3_won { frames := 10, cells := 0, slots := 0, locals := 248 } [.ref (q 0), .int (nI d)] (wS g q a sm) (zPi (iZ (aWin a d)) (wS g q a (zT3 (zFw a 0)))) 0 0 := by
  refine zM.of (cc := cX3_won) (nL := 4) (ret := (some .int)) (lv := [(0, .ref (q 0)), (1, .int (nI d))]) (by decide) rfl (Nat.le_of_ble_eq_true rfl) rfl ?_
  intro E C0 hi
  have C : zC g E cX3_won RX3 wsX3_won 4 (some .int) := C0
  obtain ⟨hnf, hnd, hnb, hou, hrs, hbd⟩ := id ha
  have hs0 := zFw_ok ha 0
  obtain ⟨hs1, hs2, hs3⟩ := id hs0
  refine z_aload_n C dX3_won_0 0 rfl ?_
  refine z_iconst C (iZ (-1)) dX3_won_1 (by decide) ?_
  refine z_callV C (c_X3_sale l g q a sm ha (-1) ⟨by decide, by decide⟩ (zFw a 0) (zCh_all ha)) (cwV 1 C.ts gX3_won_X3_sale rfl rfl rfl (by decide +kernel) ⟨Nat.le_of_ble_eq_true rfl, Nat.le_of_ble_eq_true rfl⟩) wS_o rfl rfl rfl (Nat.le_of_ble_eq_true rfl) dX3_won_2 ⟨Nat.zero_le _, Nat.zero_le _⟩ (z_i ?_)
  refine z_istore_n C dX3_won_5 (by decide) [(2, .int (nI ((zFw a 0).2))), (0, .ref (q 0)), (1, .int (nI d))] rfl ?_
  refine z_iconst C (nI 0) dX3_won_6 (by decide) ?_
  refine z_istore_n C dX3_won_7 (by decide) [(3, .int (nI 0)), (2, .int (nI ((zFw a 0).2))), (0, .ref (q 0)), (1, .int (nI d))] rfl ?_
  refine zW.pick (lv' := [(0, .ref (q 0)), (1, .int (nI d)), (2, .int (nI ((zFw a 0).2))), (3, .int (nI 0))]) [2, 3, 1, 0] rfl ?_
  have hlp8 : ∀ (k i : Nat), i + k = zNb a → (zFst (zWnP a d) i k = zFst (zWnP a d) 0 (zNb a)) → zW g l ({ frames := 10, cells := 0, slots := 0, locals := 248 }) E (zMQ g E (zPi (iZ (aWin a d)) (wS g q a (zT3 (zFw a 0)))) 0 0) 4 0 0 (wS g q a (zT3 (zFw a 0))) [(0, .ref (q 0)), (1, .int (nI d)), (2, .int (nI ((zFw a 0).2))), (3, .int (nI i))] [] 8 := by
    intro k
    induction k with
    | zero =>
      intro i hik hr
      refine z_iload_n C dX3_won_8 3 rfl ?_
      refine z_aload_n C dX3_won_9 0 rfl ?_
      refine z_get C inX3_won_X3 0 wS_o rfl 2 (by decide) (C.w 1 rfl) rfl dX3_won_10 ?_
      refine z_alenR C 3 wS_bi dX3_won_13 ?_
      refine z_icmp_ge C 46 dX3_won_14 (by decide) (zle_NN (by omega) (by omega)) (fun c_14 => ?_) (fun h9 => absurd (by omega) h9)
      refine z_iconst C (iZ (-1)) dX3_won_46 (by decide) ?_
      exact z_iretP C dX3_won_47 (by rw [← zWn_win ha, ← hr]; rfl) rfl
    | succ k ih8 =>
      intro i hik hr
      have hdl : (zFw a 0).2 / 2 ^ i ≤ (zFw a 0).2 := Nat.div_le_self _ _
      refine z_iload_n C dX3_won_8 3 rfl ?_
      refine z_aload_n C dX3_won_9 0 rfl ?_
      refine z_get C inX3_won_X3 0 wS_o rfl 2 (by decide) (C.w 1 rfl) rfl dX3_won_10 ?_
      refine z_alenR C 3 wS_bi dX3_won_13 ?_
      refine z_icmp_ge C 46 dX3_won_14 (by decide) (zle_NN (by omega) (by omega)) (fun h9 => absurd h9 (by omega)) (fun c_14 => ?_)
      refine z_iload_n C dX3_won_17 2 rfl ?_
      refine z_iload_n C dX3_won_18 3 rfl ?_
      refine z_ishr C dX3_won_19 (v := nI (((zFw a 0).2) / 2 ^ i)) (zshr_NN (by omega) (by omega)) ?_
      refine z_iconst C (nI 2) dX3_won_20 (by decide) ?_
      refine z_irem C dX3_won_21 (by decide) (v := bI ((zFw a 0).2.testBit i)) (zrem_bit (by omega)) ?_
      refine z_iconst C (nI 1) dX3_won_22 (by decide) ?_
      refine z_icmp_ne C 40 dX3_won_23 (by decide) (zeq_B1 _) (fun c_23 => ?_) (fun c_23 => ?_)
      · skip
        refine z_iinc C dX3_won_40 3 (nI (i + 1)) rfl (nI_add i 1) (by decide) [(3, .int (nI (i + 1))), (0, .ref (q 0)), (1, .int (nI d)), (2, .int (nI ((zFw a 0).2)))] rfl ?_
        refine z_goto C 8 dX3_won_43 (by decide) ?_
        refine zW.pick (lv' := [(0, .ref (q 0)), (1, .int (nI d)), (2, .int (nI ((zFw a 0).2))), (3, .int (nI (i + 1)))]) [1, 2, 3, 0] rfl ?_
        exact ih8 (i + 1) (by omega) (by rw [← hr]; simp_all [zFst, zWnP])
      · skip
        refine z_aload_n C dX3_won_26 0 rfl ?_
        refine z_get C inX3_won_X3 0 wS_o rfl 2 (by decide) (C.w 1 rfl) rfl dX3_won_27 ?_
        refine z_iload_n C dX3_won_30 3 rfl ?_
        refine z_aald C 3 wS_bi (by omega) (by omega) dX3_won_31 (zPt_at (by omega)) ?_
        refine z_iconst C (nI 0) dX3_won_32 (by decide) ?_
        refine z_ialdN C (4 + i) (wS_row (b := i) (by omega)) (by omega) (by decide) dX3_won_33 (v := nI (zOw a i)) rfl ?_
        have f_33b := ha.ow (b := i) (by omega)
        refine z_iload_n C dX3_won_34 1 rfl ?_
        refine z_icmp_ne C 40 dX3_won_35 (by decide) (zeq_NN (by omega) (by omega)) (fun c_35 => ?_) (fun c_35 => ?_)
        · skip
          refine z_iinc C dX3_won_40 3 (nI (i + 1)) rfl (nI_add i 1) (by decide) [(3, .int (nI (i + 1))), (0, .ref (q 0)), (1, .int (nI d)), (2, .int (nI ((zFw a 0).2)))] rfl ?_
          refine z_goto C 8 dX3_won_43 (by decide) ?_
          refine zW.pick (lv' := [(0, .ref (q 0)), (1, .int (nI d)), (2, .int (nI ((zFw a 0).2))), (3, .int (nI (i + 1)))]) [1, 2, 3, 0] rfl ?_
          exact ih8 (i + 1) (by omega) (by rw [← hr]; simp_all [zFst, zWnP])
        · skip
          refine z_iload_n C dX3_won_38 3 rfl ?_
          exact z_iretP C dX3_won_39 (congrArg iZ ((show (i : Int) = zFst (zWnP a d) 0 (zNb a) by simp_all [zFst, zWnP]).trans (zWn_win ha d))) rfl
  exact hlp8 (zNb a) 0 (by omega) rfl
theorem inX3_pays_X3 : ∀ w ∈ wsX30, w ∈ wsX3_pays := fun w h => List.mem_cons_of_mem _ (List.mem_append_right _ (h))
set_option maxRecDepth 100000 in
set_option maxHeartbeats 4000000 in
theorem c_X3_pays (l : Launch) (g : zG) (q : Nat → Nat) (a : zS) (sm : Int × Nat × Nat) (ha : zOk a) (d : Nat) (hd : d < zNd a) : zM g l yX3_pays wsX3_pays { frames := 11, cells := 0, slots := 0, locals := 271 } [.ref (q 0), .int (nI d)] (wS g q a sm) (zPie (iZ (aPaid a d)) (zSim g q a)) 0 0 := by
  refine zM.of (cc := cX3_pays) (nL := 4) (ret := (some .int)) (lv := [(0, .ref (q 0)), (1, .int (nI d))]) (by decide) rfl (Nat.le_of_ble_eq_true rfl) rfl ?_
  intro E C0 hi
  have C : zC g E cX3_pays RX3 wsX3_pays 4 (some .int) := C0
  obtain ⟨hnf, hnd, hnb, hou, hrs, hbd⟩ := id ha
  have hs0 := zFw_ok ha 0
  obtain ⟨hs1, hs2, hs3⟩ := id hs0
  have hw0 := zFw_ok ha (2 ^ d)
  obtain ⟨hw1, hw2, hw3⟩ := id hw0
  refine z_aload_n C dX3_pays_0 0 rfl ?_
  refine z_iload_n C dX3_pays_1 1 rfl ?_
  refine z_callV C (c_X3_won l g q a sm ha d (by omega)) (cwV 1 C.ts gX3_pays_X3_won rfl rfl rfl (by decide +kernel) ⟨Nat.le_of_ble_eq_true rfl, Nat.le_of_ble_eq_true rfl⟩) wS_o rfl rfl rfl (Nat.le_of_ble_eq_true rfl) dX3_pays_2 ⟨Nat.zero_le _, Nat.zero_le _⟩ (z_i ?_)
  rcases aWin_or (a := a) d with hwn | ⟨c, hc, hwn, hcb, hco⟩
  · skip
    refine zW.top (y := iZ (-1)) (congrArg iZ hwn) ?_
    refine z_istore_n C dX3_pays_5 (by decide) [(2, .int (iZ (-1))), (0, .ref (q 0)), (1, .int (nI d))] rfl ?_
    refine z_iload_n C dX3_pays_6 0 rfl ?_
    refine z_if_ge C 12 dX3_pays_7 (by decide) (zle_0Z (by unfold zB31; omega)) (fun h9 => absurd h9 (by omega)) (fun c_7 => ?_)
    refine z_iconst C (nI 0) dX3_pays_10 (by decide) ?_
    exact z_iretE C dX3_pays_11 (by rw [aPaid_n hwn]; rfl) ⟨_, rfl⟩
  · skip
    refine zW.top (y := nI c) (congrArg iZ hwn) ?_
    refine z_istore_n C dX3_pays_5 (by decide) [(2, .int (nI c)), (0, .ref (q 0)), (1, .int (nI d))] rfl ?_
    refine z_iload_n C dX3_pays_6 0 rfl ?_
    refine z_if_ge C 12 dX3_pays_7 (by decide) (zle_0N (by omega)) (fun c_7 => ?_) (fun h9 => absurd trivial h9)
    refine z_aload_n C dX3_pays_12 1 rfl ?_
    refine z_get C inX3_pays_X3 0 wS_o rfl 3 (by decide) (C.w 1 rfl) rfl dX3_pays_13 ?_
    refine z_aload_n C dX3_pays_16 1 rfl ?_
    refine z_iload_n C dX3_pays_17 0 rfl ?_
    refine z_callV C (c_X3_gain l g q a (zT3 (zFw a 0)) ha c (by omega)) (cwV 1 C.ts gX3_pays_X3_gain rfl rfl rfl (by decide +kernel) ⟨Nat.le_of_ble_eq_true rfl, Nat.le_of_ble_eq_true rfl⟩) wS_o rfl rfl rfl (Nat.le_of_ble_eq_true rfl) dX3_pays_18 ⟨Nat.zero_le _, Nat.zero_le _⟩ (z_i ?_)
    refine z_isub C dX3_pays_21 (v := iZ (((zFw a 0).1) - (zGn a c))) (iZ_sub ((zFw a 0).1) (zGn a c)) ?_
    refine z_istore_n C dX3_pays_22 (by decide) [(3, .int (iZ (((zFw a 0).1) - (zGn a c)))), (2, .int (nI c)), (0, .ref (q 0)), (1, .int (nI d))] rfl ?_
    refine z_aload_n C dX3_pays_23 2 rfl ?_
    refine z_iload_n C dX3_pays_24 3 rfl ?_
    refine z_callV C (c_X3_sale l g q a (zT3 (zFw a 0)) ha ((d : Nat) : Int) ⟨by omega, by omega⟩ (zFw a (2 ^ d)) (zCh_wo ha d)) (cwV 1 C.ts gX3_pays_X3_sale rfl rfl rfl (by decide +kernel) ⟨Nat.le_of_ble_eq_true rfl, Nat.le_of_ble_eq_true rfl⟩) wS_o rfl rfl rfl (Nat.le_of_ble_eq_true rfl) dX3_pays_25 ⟨Nat.zero_le _, Nat.zero_le _⟩ (z_i ?_)
    refine z_pop C dX3_pays_28 rfl ?_
    refine z_aload_n C dX3_pays_29 2 rfl ?_
    refine z_aload_n C dX3_pays_30 2 rfl ?_
    refine z_get C inX3_pays_X3 0 wS_o rfl 2 (by decide) (C.w 2 rfl) rfl dX3_pays_31 ?_
    refine z_iload_n C dX3_pays_34 1 rfl ?_
    refine z_aald C 3 wS_bi (by omega) (by omega) dX3_pays_35 (zPt_at (by omega)) ?_
    refine z_iconst C (nI 1) dX3_pays_36 (by decide) ?_
    refine z_ialdN C (4 + c) (wS_row (b := c) (by omega)) (by omega) (by decide) dX3_pays_37 (v := nI (zBu a c)) rfl ?_
    have f_37b := ha.bu8 (b := c) (by omega)
    refine z_callV C (c_X3_reserve l g q a (zT3 (zFw a (2 ^ d))) ha (zBu a c) (by omega)) (cwV 1 C.ts gX3_pays_X3_reserve rfl rfl rfl (by decide +kernel) ⟨Nat.le_of_ble_eq_true rfl, Nat.le_of_ble_eq_true rfl⟩) wS_o rfl rfl rfl (Nat.le_of_ble_eq_true rfl) dX3_pays_38 ⟨Nat.zero_le _, Nat.zero_le _⟩ (z_i ?_)
    refine z_aload_n C dX3_pays_41 2 rfl ?_
    refine z_get C inX3_pays_X3 0 wS_o rfl 3 (by decide) (C.w 1 rfl) rfl dX3_pays_42 ?_
    refine z_iadd C dX3_pays_45 (v := iZ (((zRes a (zBu a c) : Nat) : Int) + ((zFw a (2 ^ d)).1))) (iZ_add ((zRes a (zBu a c) : Nat) : Int) ((zFw a (2 ^ d)).1)) ?_
    refine z_iload_n C dX3_pays_46 0 rfl ?_
    refine z_isub C dX3_pays_47 (v := iZ ((((zRes a (zBu a c) : Nat) : Int) + ((zFw a (2 ^ d)).1)) - (((zFw a 0).1) - (zGn a c)))) (iZ_sub (((zRes a (zBu a c) : Nat) : Int) + ((zFw a (2 ^ d)).1)) (((zFw a 0).1) - (zGn a c))) ?_
    exact z_iretE C dX3_pays_48 (by rw [aPaid_y hd hwn]) ⟨_, rfl⟩
theorem inX3_profit_X3 : ∀ w ∈ wsX30, w ∈ wsX3_profit := fun w h => List.mem_cons_of_mem _ (List.mem_append_right _ (h))
set_option maxRecDepth 100000 in
set_option maxHeartbeats 4000000 in
theorem c_X3_profit (l : Launch) (g : zG) (q : Nat → Nat) (a : zS) (sm : Int × Nat × Nat) (ha : zOk a) (d : Nat) (hd : d < zNd a) : zM g l yX3_profit wsX3_profit { frames := 12, cells := 0, slots := 0, locals := 294 } [.ref (q 0), .int (nI d)] (wS g q a sm) (zPie (iZ (aProf a d)) (zSim g q a)) 0 0 := by
  refine zM.of (cc := cX3_profit) (nL := 2) (ret := (some .int)) (lv := [(0, .ref (q 0)), (1, .int (nI d))]) (by decide) rfl (Nat.le_of_ble_eq_true rfl) rfl ?_
  intro E C0 hi
  have C : zC g E cX3_profit RX3 wsX3_profit 2 (some .int) := C0
  obtain ⟨hnf, hnd, hnb, hou, hrs, hbd⟩ := id ha
  have hs0 := zFw_ok ha 0
  obtain ⟨hs1, hs2, hs3⟩ := id hs0
  have hw0 := zFw_ok ha (2 ^ d)
  obtain ⟨hw1, hw2, hw3⟩ := id hw0
  refine z_aload_n C dX3_profit_0 0 rfl ?_
  refine z_iload_n C dX3_profit_1 1 rfl ?_
  refine z_callV C (c_X3_won l g q a sm ha d (by omega)) (cwV 1 C.ts gX3_profit_X3_won rfl rfl rfl (by decide +kernel) ⟨Nat.le_of_ble_eq_true rfl, Nat.le_of_ble_eq_true rfl⟩) wS_o rfl rfl rfl (Nat.le_of_ble_eq_true rfl) dX3_profit_2 ⟨Nat.zero_le _, Nat.zero_le _⟩ (z_i ?_)
  rcases aWin_or (a := a) d with hwn | ⟨c, hc, hwn, hcb, hco⟩
  · skip
    refine zW.top (y := iZ (-1)) (congrArg iZ hwn) ?_
    refine z_if_ge C 12 dX3_profit_5 (by decide) (zle_0Z (by unfold zB31; omega)) (fun h9 => absurd h9 (by omega)) (fun c_5 => ?_)
    refine z_iconst C (nI 0) dX3_profit_8 (by decide) ?_
    refine z_goto C 30 dX3_profit_9 (by decide) ?_
    exact z_iretE C dX3_profit_30 (by unfold aProf zPfv; rw [if_pos hwn]; rfl) ⟨_, rfl⟩
  · skip
    refine zW.top (y := nI c) (congrArg iZ hwn) ?_
    refine z_if_ge C 12 dX3_profit_5 (by decide) (zle_0N (by omega)) (fun c_5 => ?_) (fun h9 => absurd trivial h9)
    refine z_aload_n C dX3_profit_12 0 rfl ?_
    refine z_get C inX3_profit_X3 0 wS_o rfl 2 (by decide) (C.w 1 rfl) rfl dX3_profit_13 ?_
    refine z_aload_n C dX3_profit_16 0 rfl ?_
    refine z_iload_n C dX3_profit_17 1 rfl ?_
    refine z_callV C (c_X3_won l g q a (zT3 (zFw a 0)) ha d (by omega)) (cwV 1 C.ts gX3_profit_X3_won rfl rfl rfl (by decide +kernel) ⟨Nat.le_of_ble_eq_true rfl, Nat.le_of_ble_eq_true rfl⟩) wS_o rfl rfl rfl (Nat.le_of_ble_eq_true rfl) dX3_profit_18 ⟨Nat.zero_le _, Nat.zero_le _⟩ (z_i ?_)
    refine zW.top (y := nI c) (congrArg iZ hwn) ?_
    refine z_aald C 3 wS_bi (by omega) (by omega) dX3_profit_21 (zPt_at (by omega)) ?_
    refine z_iconst C (nI 3) dX3_profit_22 (by decide) ?_
    refine z_ialdN C (4 + c) (wS_row (b := c) (by omega)) (by omega) (by decide) dX3_profit_23 (v := nI (zWo a c)) rfl ?_
    have f_23b := ha.wo (b := c) (by omega)
    refine z_aload_n C dX3_profit_24 0 rfl ?_
    refine z_iload_n C dX3_profit_25 1 rfl ?_
    refine z_callV C (c_X3_pays l g q a (zT3 (zFw a 0)) ha d (by omega)) (cwV 1 C.ts gX3_profit_X3_pays rfl rfl rfl (by decide +kernel) ⟨Nat.le_of_ble_eq_true rfl, Nat.le_of_ble_eq_true rfl⟩) wS_o rfl rfl rfl (Nat.le_of_ble_eq_true rfl) dX3_profit_26 ⟨Nat.zero_le _, Nat.zero_le _⟩ (z_ie ?_)
    rintro _ ⟨sm26, rfl⟩
    refine z_isub C dX3_profit_29 (v := iZ (((zWo a c : Nat) : Int) - (aPaid a d))) (iZ_sub ((zWo a c : Nat) : Int) (aPaid a d)) ?_
    exact z_iretE C dX3_profit_30 (by unfold aProf zPfv; rw [hwn, if_neg (by omega)]; rfl) ⟨_, rfl⟩
end
section
theorem zapp_l {α : Type} {a b : List α} {k : Nat} {e : α} (h : a[k]? = some e) : (a ++ b)[k]? = some e := by
  rw [List.getElem?_append_left (List.getElem?_eq_some_iff.mp h).1]; exact h
theorem zapp_r {α : Type} {a b : List α} {k : Nat} {e : α} (h : b[k]? = some e) : (a ++ b)[a.length + k]? = some e := by
  rw [List.getElem?_append_right (Nat.le_add_right _ _), Nat.add_sub_cancel_left]; exact h
theorem zapp_e {α : Type} {a : List α} {e : α} : (a ++ [e])[a.length]? = some e := by
  rw [List.getElem?_append_right (Nat.le_refl _), Nat.sub_self]; rfl
theorem zapp_set {α : Type} {a : List α} {e e2 : α} : (a ++ [e]).set a.length e2 = a ++ [e2] := by
  rw [List.set_append_right _ _ (Nat.le_refl _), Nat.sub_self]; rfl
section WBX
variable {g : zG} {q : Nat → Nat} {a : zS} {G : Nat → Int} {bs : Nat → Int × Nat} {wb pd gw : Nat → Nat → Int}
theorem zapp_B {X : va_W} {k : Nat} {e : Nat × va_E} (h : X[k]? = some e) : (wB g q a G bs wb pd gw ++ X)[20 + k]? = some e := zapp_r (a := wB g q a G bs wb pd gw) h
theorem zset_B {X X' : va_W} {k : Nat} {e : Nat × va_E} (h : X.set k e = X') : (wB g q a G bs wb pd gw ++ X).set (20 + k) e = wB g q a G bs wb pd gw ++ X' := by
  rw [List.set_append_right _ _ (show (wB g q a G bs wb pd gw).length ≤ 20 + k from Nat.le_add_right 20 k), show 20 + k - (wB g q a G bs wb pd gw).length = k from Nat.add_sub_cancel_left 20 k, h]
end WBX
/-- a contract in a world with more ahead of it and behind -/
theorem zM.fm {g : zG} {l : Launch} {y : MethodName} {ws : List Cond} {rm : Room} {As : List Value} {w : va_W} {post : Option Value → va_W → Prop} {mc ms : Nat} (h : zM g l y ws rm As w post mc ms) (a c : va_W) : zM g l y ws rm As (a ++ (w ++ c)) (fun v W => ∃ w', post v w' ∧ W = a ++ (w' ++ c)) mc ms := by
  have h1 := h.fr a c
  rw [List.append_assoc] at h1
  refine h1.mono (fun v W => ?_)
  rintro ⟨w', e1, e2⟩
  exact ⟨w', e1, by rw [e2, List.append_assoc]⟩
/-- the best bid of those from i on for one field alone -/
def zHB (a : zS) (f i : Nat) (best : Int) : Prop := (best = -1 ∧ ∀ b, i ≤ b → b < zNb a → zCo a f (-1) b = false) ∨ ∃ c : Nat, i ≤ c ∧ c < zNb a ∧ best = (c : Int) ∧ zCo a f (-1) c = true ∧ ∀ b, i ≤ b → b < zNb a → zCo a f (-1) b = true → zPr a b ≤ zPr a c ∧ (b < c → zPr a b < zPr a c)
theorem zHB_0 (a : zS) (f : Nat) : zHB a f (zNb a) (-1) := Or.inl ⟨rfl, fun b h1 h2 => absurd h2 (by omega)⟩
theorem zHB_keep {a : zS} {f j : Nat} {best : Int} (h : zHB a f (j + 1) best) (hk : zCo a f (-1) j = false ∨ ∃ c : Nat, best = (c : Int) ∧ zPr a j < zPr a c) : zHB a f j best := by
  rcases h with ⟨e, h1⟩ | ⟨c, h1, h2, h3, h4, h5⟩
  · rcases hk with hk | ⟨c, hk, -⟩
    · refine Or.inl ⟨e, fun b g1 g2 => ?_⟩
      by_cases hb : b = j
      · rw [hb]; exact hk
      · exact h1 b (by omega) g2
    · omega
  · refine Or.inr ⟨c, by omega, h2, h3, h4, fun b g1 g2 g3 => ?_⟩
    by_cases hb : b = j
    · subst hb
      rcases hk with hk | ⟨c2, hk, g4⟩
      · rw [hk] at g3; cases g3
      · have e : c2 = c := by omega
        subst e
        exact ⟨by omega, fun _ => g4⟩
    · exact h5 b (by omega) g2 g3
theorem zHB_new {a : zS} {f j : Nat} {best : Int} (h : zHB a f (j + 1) best) (hj : j < zNb a) (hp : zCo a f (-1) j = true) (hk : best = -1 ∨ ∃ c : Nat, best = (c : Int) ∧ zPr a c ≤ zPr a j) : zHB a f j (j : Int) := by
  refine Or.inr ⟨j, Nat.le_refl j, hj, rfl, hp, fun b g1 g2 g3 => ?_⟩
  by_cases hb : b = j
  · subst hb; exact ⟨Nat.le_refl _, fun q => absurd q (by omega)⟩
  · rcases h with ⟨e, h1⟩ | ⟨c, h1, h2, h3, h4, h5⟩
    · rw [h1 b (by omega) g2] at g3; cases g3
    · rcases hk with hk | ⟨c2, hk, g4⟩
      · omega
      · have e : c2 = c := by omega
        subst e
        have := (h5 b (by omega) g2 g3).1
        exact ⟨by omega, fun q => absurd q (by omega)⟩
theorem zHi_spec (a : zS) (p : Nat → Bool) : ∀ n, (zHi a p n = -1 ∧ ∀ b, b < n → p b = false) ∨ ∃ c, c < n ∧ zHi a p n = (c : Int) ∧ p c = true ∧ ∀ b, b < n → p b = true → zPr a b ≤ zPr a c ∧ (b < c → zPr a b < zPr a c)
  | 0 => Or.inl ⟨rfl, fun b h => absurd h (Nat.not_lt_zero b)⟩
  | n + 1 => by
    have hz : zHi a p (n + 1) = if p n = true ∧ (zHi a p n = -1 ∨ zPr a (zHi a p n).toNat < zPr a n) then (n : Int) else zHi a p n := rfl
    rcases zHi_spec a p n with ⟨e, h1⟩ | ⟨c, h1, e, h2, h3⟩
    · by_cases hp : p n = true
      · rw [hz, if_pos ⟨hp, Or.inl e⟩]
        refine Or.inr ⟨n, by omega, rfl, hp, fun b g1 g2 => ?_⟩
        by_cases hb : b = n
        · subst hb; exact ⟨Nat.le_refl _, fun q => absurd q (by omega)⟩
        · rw [h1 b (by omega)] at g2; cases g2
      · rw [hz, if_neg (fun q => hp q.1)]
        refine Or.inl ⟨e, fun b g1 => ?_⟩
        by_cases hb : b = n
        · subst hb; simpa using hp
        · exact h1 b (by omega)
    · have e2 : (zHi a p n).toNat = c := by rw [e]; rfl
      rw [e2] at hz
      by_cases hp : p n = true ∧ zPr a c < zPr a n
      · rw [hz, if_pos ⟨hp.1, Or.inr hp.2⟩]
        refine Or.inr ⟨n, by omega, rfl, hp.1, fun b g1 g2 => ?_⟩
        by_cases hb : b = n
        · subst hb; exact ⟨Nat.le_refl _, fun q => absurd q (by omega)⟩
        · have := (h3 b (by omega) g2).1
          exact ⟨by omega, fun _ => by omega⟩
      · rw [hz, if_neg (by rintro ⟨q1, q2 | q2⟩; · omega
                           · exact hp ⟨q1, q2⟩)]
        refine Or.inr ⟨c, by omega, e, h2, fun b g1 g2 => ?_⟩
        by_cases hb : b = n
        · subst hb
          have : ¬ zPr a c < zPr a b := fun q => hp ⟨g2, q⟩
          exact ⟨by omega, fun q => absurd q (by omega)⟩
        · exact h3 b (by omega) g2
theorem zHB_top {a : zS} {f : Nat} {best : Int} (h : zHB a f 0 best) : best = aHi a f (-1) := by
  unfold aHi
  rcases h with ⟨e, h1⟩ | ⟨c, -, h2, e, h4, h5⟩ <;> rcases zHi_spec a (zCo a f (-1)) (zNb a) with ⟨e2, g1⟩ | ⟨c2, g1, e2, g2, g3⟩
  · rw [e, e2]
  · have := h1 c2 (Nat.zero_le _) g1
    rw [g2] at this; cases this
  · have := g1 c h2
    rw [h4] at this; cases this
  · have p1 := h5 c2 (Nat.zero_le _) g1 g2
    have p2 := g3 c h2 h4
    rw [e, e2]
    by_cases q : c = c2
    · rw [q]
    · rcases Nat.lt_or_gt_of_ne q with q | q
      · have := p2.2 q; omega
      · have := p1.2 q; omega
theorem mMx_s (a : zS) (f : Nat) (p : Nat → Bool) (n : Nat) : mMx a f p (n + 1) = if p n = true then max (mMx a f p n) (zPr a n) else mMx a f p n := rfl
theorem mMx_n {a : zS} {f n : Nat} {p : Nat → Bool} (h : p n = false) : mMx a f p (n + 1) = mMx a f p n := by rw [mMx_s, h]; rfl
theorem mMx_k {a : zS} {f n : Nat} {p : Nat → Bool} (h : zPr a n ≤ mMx a f p n) : mMx a f p (n + 1) = mMx a f p n := by
  rw [mMx_s]
  split
  · exact Nat.max_eq_left h
  · rfl
theorem mMx_t {a : zS} {f n : Nat} {p : Nat → Bool} (hp : p n = true) (h : mMx a f p n < zPr a n) : mMx a f p (n + 1) = zPr a n := by
  rw [mMx_s, if_pos hp]
  exact Nat.max_eq_right (by omega)
theorem zCo_t {a : zS} {f b : Nat} {lo : Int} (h1 : zCn a (zOu a) b = true) (h2 : zBu a b = 2 ^ f) (h3 : ((zOw a b : Nat) : Int) ≠ lo) : zCo a f lo b = true := by
  unfold zCo
  rw [h1, decide_eq_true h2, decide_eq_true h3]; rfl
theorem zCo_f1 {a : zS} {f b : Nat} {lo : Int} (h1 : zCn a (zOu a) b = false) : zCo a f lo b = false := by
  unfold zCo
  rw [h1]; rfl
theorem zCo_f2 {a : zS} {f b : Nat} {lo : Int} (h : ¬ zBu a b = 2 ^ f) : zCo a f lo b = false := by
  unfold zCo
  rw [decide_eq_false h]
  cases zCn a (zOu a) b <;> rfl
theorem zCo_f3 {a : zS} {f b : Nat} {lo : Int} (h : ((zOw a b : Nat) : Int) = lo) : zCo a f lo b = false := by
  unfold zCo
  rw [show decide (((zOw a b : Nat) : Int) ≠ lo) = false from decide_eq_false (fun q => q h)]
  cases zCn a (zOu a) b <;> cases decide (zBu a b = 2 ^ f) <;> rfl
theorem mMx_le {a : zS} (ha : zOk a) {f : Nat} (hf : f < zNf a) {p : Nat → Bool} : ∀ {n : Nat}, n ≤ zNb a → mMx a f p n ≤ 999
  | 0, _ => by
    have := ha.rs hf
    show zRs a f ≤ 999
    omega
  | n + 1, h => by
    have h1 := mMx_le ha hf (p := p) (n := n) (by omega)
    have h2 := ha.pr (b := n) (by omega)
    rw [mMx_s]
    split
    · exact Nat.max_le.mpr ⟨h1, h2⟩
    · exact h1
/-- what is told of one field alone, as a row -/
def zAl (a : zS) (f : Nat) : Nat → Int32 := fun j => if j < 3 then iZ (aAlone a f j) else nI 0
theorem zAl_at {a : zS} {f j : Nat} (h : j < 3) : zAl a f j = iZ (aAlone a f j) := if_pos h
theorem zAl_of {a : zS} {f : Nat} {x y z : Int32} (h0 : x = iZ (aAlone a f 0)) (h1 : y = iZ (aAlone a f 1)) (h2 : z = iZ (aAlone a f 2)) : upd (upd (upd (fun _ => nI 0) 0 x) 1 y) 2 z = zAl a f := by
  funext j
  match j with
  | 0 => exact h0
  | 1 => exact h1
  | 2 => exact h2
  | n + 3 => rfl
theorem inX3_alone_X3 : ∀ w ∈ wsX30, w ∈ wsX3_alone := fun w h => List.mem_cons_of_mem _ (List.mem_append_right _ (h))
set_option maxRecDepth 100000 in
set_option maxHeartbeats 4000000 in
theorem c_X3_alone (l : Launch) (g : zG) (q : Nat → Nat) (a : zS) (sm : Int × Nat × Nat) (ha : zOk a) (f : Nat) (hf : f < zNf a) : zM g l yX3_alone wsX3_alone { frames := 3, cells := 1, slots := 3, locals := 65 } [.ref (q 0), .int (nI f)] (wS g q a sm) ((fun v w' => ∃ x : Nat, v = some (.ref x) ∧ w' = wS g q a sm ++ [(x, .inl (zI g, 3, .inl (zAl a f)))])) 1 3 := by
  refine zM.of (cc := cX3_alone) (nL := 5) (ret := (some (.array .int))) (lv := [(0, .ref (q 0)), (1, .int (nI f))]) (by decide) rfl (Nat.le_of_ble_eq_true rfl) rfl ?_
  intro E C0 hi
  have C : zC g E cX3_alone RX3 wsX3_alone 5 (some (.array .int)) := C0
  obtain ⟨hnf, hnd, hnb, hou, hrs, hbd⟩ := id ha
  have hs0 := zFw_ok ha 0
  obtain ⟨hs1, hs2, hs3⟩ := id hs0
  have p8 : 2 ^ f ≤ 2 ^ 8 := zp2_le (by omega)
  refine z_iconst C (iZ (-1)) dX3_alone_0 (by decide) ?_
  refine z_istore_n C dX3_alone_1 (by decide) [(2, .int (iZ (-1))), (0, .ref (q 0)), (1, .int (nI f))] rfl ?_
  refine z_aload_n C dX3_alone_2 1 rfl ?_
  refine z_get C inX3_alone_X3 0 wS_o rfl 2 (by decide) (C.w 1 rfl) rfl dX3_alone_3 ?_
  refine z_alenR C 3 wS_bi dX3_alone_6 ?_
  refine z_iconst C (nI 1) dX3_alone_7 (by decide) ?_
  refine z_isub C dX3_alone_8 (v := iZ (((zNb a : Nat) : Int) - 1)) (iZ_sub ((zNb a : Nat) : Int) 1) ?_
  refine z_istore_n C dX3_alone_9 (by decide) [(3, .int (iZ (((zNb a : Nat) : Int) - 1))), (2, .int (iZ (-1))), (0, .ref (q 0)), (1, .int (nI f))] rfl ?_
  refine zW.pick (lv' := [(0, .ref (q 0)), (1, .int (nI f)), (2, .int (iZ (-1))), (3, .int (iZ (((zNb a : Nat) : Int) - 1)))]) [2, 3, 1, 0] rfl ?_
  have hlp10 : ∀ (j : Nat) (best : Int), j ≤ zNb a → zHB a f j best → zW g l ({ frames := 3, cells := 1, slots := 3, locals := 65 }) E (zMQ g E ((fun v w' => ∃ x : Nat, v = some (.ref x) ∧ w' = wS g q a sm ++ [(x, .inl (zI g, 3, .inl (zAl a f)))])) 1 3) 5 0 0 (wS g q a sm) [(0, .ref (q 0)), (1, .int (nI f)), (2, .int (iZ best)), (3, .int (iZ (((j : Nat) : Int) - 1)))] [] 10 := by
    intro j
    induction j with
    | zero =>
      intro best hj hB
      have hbb : -1 ≤ best ∧ best < 12 := by rcases hB with ⟨e, -⟩ | ⟨c, -, e1, e2, -⟩ <;> omega
      refine zW.lve (lv' := [(0, .ref (q 0)), (1, .int (nI f)), (2, .int (iZ best)), (3, .int (iZ (-1)))]) (rfl) ?_
      refine z_iload_n C dX3_alone_10 3 rfl ?_
      refine z_if_lt C 67 dX3_alone_11 (by decide) (zlt_Z0 (by unfold zB31; omega)) (fun c_11 => ?_) (fun h9 => absurd (by decide) h9)
      have hbt := zHB_top hB
      rcases zHi_or a (zCo a f (-1)) (zNb a) with hwn | ⟨c, hc, hwn, -⟩
      · skip
        have hwn : aHi a f (-1) = -1 := hwn
        refine zW.pick (lv' := [(0, .ref (q 0)), (1, .int (nI f)), (2, .int (iZ best))]) [0, 1, 2] rfl ?_
        refine zW.lve (lv' := [(0, .ref (q 0)), (1, .int (nI f)), (2, .int (iZ (-1)))]) (by rw [hbt, hwn]; try rfl) ?_
        refine z_iload_n C dX3_alone_67 2 rfl ?_
        refine z_if_ge C 87 dX3_alone_68 (by decide) (zle_0Z (by unfold zB31; omega)) (fun h9 => absurd h9 (by omega)) (fun c_68 => ?_)
        refine z_iconst C (nI 3) dX3_alone_71 (by decide) ?_
        refine z_newaI C (C.w 2 rfl) (n := 3) (by omega) (by dsimp only; omega) (by dsimp only; omega) dX3_alone_72 (fun x72 => ?_)
        refine zW.eqw (ws2 := wS g q a sm ++ [(x72, .inl (zI g, 3, .inl (fun _ => nI 0)))]) rfl ?_
        refine z_dup C dX3_alone_74 rfl ?_
        refine z_iconst C (nI 0) dX3_alone_75 (by decide) ?_
        refine z_iconst C (iZ (-1)) dX3_alone_76 (by decide) ?_
        refine z_iastN C ((wS g q a sm).length) zapp_e (by omega) (by decide) dX3_alone_77 zapp_set ?_
        refine z_dup C dX3_alone_78 rfl ?_
        refine z_iconst C (nI 1) dX3_alone_79 (by decide) ?_
        refine z_iconst C (iZ (-1)) dX3_alone_80 (by decide) ?_
        refine z_iastN C ((wS g q a sm).length) zapp_e (by omega) (by decide) dX3_alone_81 zapp_set ?_
        refine z_dup C dX3_alone_82 rfl ?_
        refine z_iconst C (nI 2) dX3_alone_83 (by decide) ?_
        refine z_iconst C (iZ (-1)) dX3_alone_84 (by decide) ?_
        refine z_iastN C ((wS g q a sm).length) zapp_e (by omega) (by decide) dX3_alone_85 zapp_set ?_
        refine z_aret (Or.inr ⟨_, rfl⟩) C dX3_alone_86 ⟨x72, rfl, ?_⟩
        rw [(zAl_of (by unfold aAlone; rw [if_pos hwn]) (by unfold aAlone; rw [if_pos hwn]) (by unfold aAlone; rw [if_pos hwn]))]
      · skip
        have hwn : aHi a f (-1) = (c : Int) := hwn
        refine zW.pick (lv' := [(0, .ref (q 0)), (1, .int (nI f)), (2, .int (iZ best))]) [0, 1, 2] rfl ?_
        refine zW.lve (lv' := [(0, .ref (q 0)), (1, .int (nI f)), (2, .int (nI c))]) (by rw [hbt, hwn]; try rfl) ?_
        refine z_iload_n C dX3_alone_67 2 rfl ?_
        refine z_if_ge C 87 dX3_alone_68 (by decide) (zle_0N (by omega)) (fun c_68 => ?_) (fun h9 => absurd trivial h9)
        refine z_aload_n C dX3_alone_87 0 rfl ?_
        refine z_get C inX3_alone_X3 0 wS_o rfl 0 (by decide) (C.w 3 rfl) rfl dX3_alone_88 ?_
        refine z_iload_n C dX3_alone_91 1 rfl ?_
        refine z_ialdN C 1 wS_rs (by omega) (by omega) dX3_alone_92 (v := nI (zRf a f)) rfl ?_
        have f_92b := zRf_le ha f
        refine zW.top (y := nI (zRs a f)) (by unfold zRf; rw [if_pos hf]) ?_
        refine z_istore_n C dX3_alone_93 (by decide) [(3, .int (nI (zRs a f))), (0, .ref (q 0)), (1, .int (nI f)), (2, .int (nI c))] rfl ?_
        refine z_iconst C (nI 0) dX3_alone_94 (by decide) ?_
        refine z_istore C dX3_alone_95 (by decide) [(4, .int (nI 0)), (3, .int (nI (zRs a f))), (0, .ref (q 0)), (1, .int (nI f)), (2, .int (nI c))] rfl ?_
        refine zW.pick (lv' := [(0, .ref (q 0)), (1, .int (nI f)), (2, .int (nI c)), (3, .int (nI (zRs a f))), (4, .int (nI 0))]) [2, 3, 4, 1, 0] rfl ?_
        have hlp97 : ∀ (k i : Nat), i + k = zNb a → zW g l ({ frames := 3, cells := 1, slots := 3, locals := 65 }) E (zMQ g E ((fun v w' => ∃ x : Nat, v = some (.ref x) ∧ w' = wS g q a sm ++ [(x, .inl (zI g, 3, .inl (zAl a f)))])) 1 3) 5 0 0 (wS g q a sm) [(0, .ref (q 0)), (1, .int (nI f)), (2, .int (nI c)), (3, .int (nI (mMx a f (zCo a f ((zOw a c : Nat) : Int)) i))), (4, .int (nI i))] [] 97 := by
          intro k
          induction k with
          | zero =>
            intro i hik
            refine z_iload C dX3_alone_97 4 rfl ?_
            refine z_aload_n C dX3_alone_99 0 rfl ?_
            refine z_get C inX3_alone_X3 0 wS_o rfl 2 (by decide) (C.w 1 rfl) rfl dX3_alone_100 ?_
            refine z_alenR C 3 wS_bi dX3_alone_103 ?_
            refine z_icmp_ge C 180 dX3_alone_104 (by decide) (zle_NN (by omega) (by omega)) (fun c_104 => ?_) (fun h9 => absurd (by omega) h9)
            refine z_iconst C (nI 3) dX3_alone_180 (by decide) ?_
            refine z_newaI C (C.w 2 rfl) (n := 3) (by omega) (by dsimp only; omega) (by dsimp only; omega) dX3_alone_181 (fun x181 => ?_)
            refine zW.eqw (ws2 := wS g q a sm ++ [(x181, .inl (zI g, 3, .inl (fun _ => nI 0)))]) rfl ?_
            refine z_dup C dX3_alone_183 rfl ?_
            refine z_iconst C (nI 0) dX3_alone_184 (by decide) ?_
            refine z_iload_n C dX3_alone_185 2 rfl ?_
            refine z_iastN C ((wS g q a sm).length) zapp_e (by omega) (by decide) dX3_alone_186 zapp_set ?_
            refine z_dup C dX3_alone_187 rfl ?_
            refine z_iconst C (nI 1) dX3_alone_188 (by decide) ?_
            refine z_aload_n C dX3_alone_189 0 rfl ?_
            refine z_get C inX3_alone_X3 0 (zapp_l wS_o) rfl 2 (by decide) (C.w 1 rfl) rfl dX3_alone_190 ?_
            refine z_iload_n C dX3_alone_193 2 rfl ?_
            refine z_aald C 3 (zapp_l wS_bi) (by omega) (by omega) dX3_alone_194 (zPt_at (by omega)) ?_
            refine z_iconst C (nI 0) dX3_alone_195 (by decide) ?_
            refine z_ialdN C (4 + c) (zapp_l (wS_row (b := c) (by omega))) (by omega) (by decide) dX3_alone_196 (v := nI (zOw a c)) rfl ?_
            have f_196b := ha.ow (b := c) (by omega)
            refine z_iastN C ((wS g q a sm).length) zapp_e (by omega) (by decide) dX3_alone_197 zapp_set ?_
            refine z_dup C dX3_alone_198 rfl ?_
            refine z_iconst C (nI 2) dX3_alone_199 (by decide) ?_
            refine z_iload_n C dX3_alone_200 3 rfl ?_
            refine z_iastN C ((wS g q a sm).length) zapp_e (by omega) (by decide) dX3_alone_201 zapp_set ?_
            refine z_aret (Or.inr ⟨_, rfl⟩) C dX3_alone_202 ⟨x181, rfl, ?_⟩
            rw [(zAl_of (by unfold aAlone; rw [hwn, if_neg (by omega)]; rfl) (by unfold aAlone; rw [hwn, if_neg (by omega)]; rfl) (by unfold aAlone; rw [hwn, if_neg (by omega), show i = zNb a by omega]; exact congrArg iZ (mMx_eq (fun b hb => zCo_ge hf hb) (zNb a))))]
          | succ k ih97 =>
            intro i hik
            have hmb : mMx a f (zCo a f ((zOw a c : Nat) : Int)) i ≤ 999 := mMx_le ha hf (by omega)
            refine z_iload C dX3_alone_97 4 rfl ?_
            refine z_aload_n C dX3_alone_99 0 rfl ?_
            refine z_get C inX3_alone_X3 0 wS_o rfl 2 (by decide) (C.w 1 rfl) rfl dX3_alone_100 ?_
            refine z_alenR C 3 wS_bi dX3_alone_103 ?_
            refine z_icmp_ge C 180 dX3_alone_104 (by decide) (zle_NN (by omega) (by omega)) (fun h9 => absurd h9 (by omega)) (fun c_104 => ?_)
            refine z_aload_n C dX3_alone_107 0 rfl ?_
            refine z_iload C dX3_alone_108 4 rfl ?_
            refine z_callV C (c_X3_counts l g q a sm ha i (by omega)) (cwV 1 C.ts gX3_alone_X3_counts rfl rfl rfl (by decide +kernel) ⟨Nat.le_of_ble_eq_true rfl, Nat.le_of_ble_eq_true rfl⟩) wS_o rfl rfl rfl (Nat.le_of_ble_eq_true rfl) dX3_alone_110 ⟨by dsimp only; omega, by dsimp only; omega⟩ ?_
            rintro _ _ ⟨rfl, rfl⟩
            refine zW.eqst (st2 := [.int (bI (zCn a (zOu a) i))]) rfl ?_
            refine z_if_eq C 174 dX3_alone_113 (by decide) (zeq_B0 _) (fun c_113 => ?_) (fun c_113 => ?_)
            · skip
              refine z_iinc C dX3_alone_174 4 (nI (i + 1)) rfl (nI_add i 1) (by decide) [(4, .int (nI (i + 1))), (0, .ref (q 0)), (1, .int (nI f)), (2, .int (nI c)), (3, .int (nI (mMx a f (zCo a f ((zOw a c : Nat) : Int)) i)))] rfl ?_
              refine z_goto C 97 dX3_alone_177 (by decide) ?_
              refine zW.pick (lv' := [(0, .ref (q 0)), (1, .int (nI f)), (2, .int (nI c)), (3, .int (nI (mMx a f (zCo a f ((zOw a c : Nat) : Int)) i))), (4, .int (nI (i + 1)))]) [1, 2, 3, 4, 0] rfl ?_
              refine zW.lve (lv' := [(0, .ref (q 0)), (1, .int (nI f)), (2, .int (nI c)), (3, .int (nI (mMx a f (zCo a f ((zOw a c : Nat) : Int)) (i + 1)))), (4, .int (nI (i + 1)))]) (by rw [mMx_n (zCo_f1 c_113)]) ?_
              exact ih97 (i + 1) (by omega)
            · skip
              refine z_aload_n C dX3_alone_116 0 rfl ?_
              refine z_get C inX3_alone_X3 0 wS_o rfl 2 (by decide) (C.w 1 rfl) rfl dX3_alone_117 ?_
              refine z_iload C dX3_alone_120 4 rfl ?_
              refine z_aald C 3 wS_bi (by omega) (by omega) dX3_alone_122 (zPt_at (by omega)) ?_
              refine z_iconst C (nI 1) dX3_alone_123 (by decide) ?_
              refine z_ialdN C (4 + i) (wS_row (b := i) (by omega)) (by omega) (by decide) dX3_alone_124 (v := nI (zBu a i)) rfl ?_
              have f_124b := ha.bu8 (b := i) (by omega)
              refine z_iconst C (nI 1) dX3_alone_125 (by decide) ?_
              refine z_iload_n C dX3_alone_126 1 rfl ?_
              refine z_ishl C dX3_alone_127 (v := nI (2 ^ f)) (zshl_1N (by omega)) ?_
              refine z_icmp_ne C 174 dX3_alone_128 (by decide) (zeq_NN (by omega) (by omega)) (fun c_128 => ?_) (fun c_128 => ?_)
              · skip
                refine z_iinc C dX3_alone_174 4 (nI (i + 1)) rfl (nI_add i 1) (by decide) [(4, .int (nI (i + 1))), (0, .ref (q 0)), (1, .int (nI f)), (2, .int (nI c)), (3, .int (nI (mMx a f (zCo a f ((zOw a c : Nat) : Int)) i)))] rfl ?_
                refine z_goto C 97 dX3_alone_177 (by decide) ?_
                refine zW.pick (lv' := [(0, .ref (q 0)), (1, .int (nI f)), (2, .int (nI c)), (3, .int (nI (mMx a f (zCo a f ((zOw a c : Nat) : Int)) i))), (4, .int (nI (i + 1)))]) [1, 2, 3, 4, 0] rfl ?_
                refine zW.lve (lv' := [(0, .ref (q 0)), (1, .int (nI f)), (2, .int (nI c)), (3, .int (nI (mMx a f (zCo a f ((zOw a c : Nat) : Int)) (i + 1)))), (4, .int (nI (i + 1)))]) (by rw [mMx_n (zCo_f2 c_128)]) ?_
                exact ih97 (i + 1) (by omega)
              · skip
                refine z_aload_n C dX3_alone_131 0 rfl ?_
                refine z_get C inX3_alone_X3 0 wS_o rfl 2 (by decide) (C.w 1 rfl) rfl dX3_alone_132 ?_
                refine z_iload C dX3_alone_135 4 rfl ?_
                refine z_aald C 3 wS_bi (by omega) (by omega) dX3_alone_137 (zPt_at (by omega)) ?_
                refine z_iconst C (nI 0) dX3_alone_138 (by decide) ?_
                refine z_ialdN C (4 + i) (wS_row (b := i) (by omega)) (by omega) (by decide) dX3_alone_139 (v := nI (zOw a i)) rfl ?_
                have f_139b := ha.ow (b := i) (by omega)
                refine z_aload_n C dX3_alone_140 0 rfl ?_
                refine z_get C inX3_alone_X3 0 wS_o rfl 2 (by decide) (C.w 1 rfl) rfl dX3_alone_141 ?_
                refine z_iload_n C dX3_alone_144 2 rfl ?_
                refine z_aald C 3 wS_bi (by omega) (by omega) dX3_alone_145 (zPt_at (by omega)) ?_
                refine z_iconst C (nI 0) dX3_alone_146 (by decide) ?_
                refine z_ialdN C (4 + c) (wS_row (b := c) (by omega)) (by omega) (by decide) dX3_alone_147 (v := nI (zOw a c)) rfl ?_
                have f_147b := ha.ow (b := c) (by omega)
                refine z_icmp_eq C 174 dX3_alone_148 (by decide) (zeq_NN (by omega) (by omega)) (fun c_148 => ?_) (fun c_148 => ?_)
                · skip
                  refine z_iinc C dX3_alone_174 4 (nI (i + 1)) rfl (nI_add i 1) (by decide) [(4, .int (nI (i + 1))), (0, .ref (q 0)), (1, .int (nI f)), (2, .int (nI c)), (3, .int (nI (mMx a f (zCo a f ((zOw a c : Nat) : Int)) i)))] rfl ?_
                  refine z_goto C 97 dX3_alone_177 (by decide) ?_
                  refine zW.pick (lv' := [(0, .ref (q 0)), (1, .int (nI f)), (2, .int (nI c)), (3, .int (nI (mMx a f (zCo a f ((zOw a c : Nat) : Int)) i))), (4, .int (nI (i + 1)))]) [1, 2, 3, 4, 0] rfl ?_
                  refine zW.lve (lv' := [(0, .ref (q 0)), (1, .int (nI f)), (2, .int (nI c)), (3, .int (nI (mMx a f (zCo a f ((zOw a c : Nat) : Int)) (i + 1)))), (4, .int (nI (i + 1)))]) (by rw [mMx_n (zCo_f3 (by omega))]) ?_
                  exact ih97 (i + 1) (by omega)
                · skip
                  refine z_aload_n C dX3_alone_151 0 rfl ?_
                  refine z_get C inX3_alone_X3 0 wS_o rfl 2 (by decide) (C.w 1 rfl) rfl dX3_alone_152 ?_
                  refine z_iload C dX3_alone_155 4 rfl ?_
                  refine z_aald C 3 wS_bi (by omega) (by omega) dX3_alone_157 (zPt_at (by omega)) ?_
                  refine z_iconst C (nI 2) dX3_alone_158 (by decide) ?_
                  refine z_ialdN C (4 + i) (wS_row (b := i) (by omega)) (by omega) (by decide) dX3_alone_159 (v := nI (zPr a i)) rfl ?_
                  have f_159b := ha.pr (b := i) (by omega)
                  refine z_iload_n C dX3_alone_160 3 rfl ?_
                  refine z_icmp_le C 174 dX3_alone_161 (by decide) (zle_NN (by omega) (by omega)) (fun c_161 => ?_) (fun c_161 => ?_)
                  · skip
                    refine z_iinc C dX3_alone_174 4 (nI (i + 1)) rfl (nI_add i 1) (by decide) [(4, .int (nI (i + 1))), (0, .ref (q 0)), (1, .int (nI f)), (2, .int (nI c)), (3, .int (nI (mMx a f (zCo a f ((zOw a c : Nat) : Int)) i)))] rfl ?_
                    refine z_goto C 97 dX3_alone_177 (by decide) ?_
                    refine zW.pick (lv' := [(0, .ref (q 0)), (1, .int (nI f)), (2, .int (nI c)), (3, .int (nI (mMx a f (zCo a f ((zOw a c : Nat) : Int)) i))), (4, .int (nI (i + 1)))]) [1, 2, 3, 4, 0] rfl ?_
                    refine zW.lve (lv' := [(0, .ref (q 0)), (1, .int (nI f)), (2, .int (nI c)), (3, .int (nI (mMx a f (zCo a f ((zOw a c : Nat) : Int)) (i + 1)))), (4, .int (nI (i + 1)))]) (by rw [mMx_k (by omega)]) ?_
                    exact ih97 (i + 1) (by omega)
                  · skip
                    refine z_aload_n C dX3_alone_164 0 rfl ?_
                    refine z_get C inX3_alone_X3 0 wS_o rfl 2 (by decide) (C.w 1 rfl) rfl dX3_alone_165 ?_
                    refine z_iload C dX3_alone_168 4 rfl ?_
                    refine z_aald C 3 wS_bi (by omega) (by omega) dX3_alone_170 (zPt_at (by omega)) ?_
                    refine z_iconst C (nI 2) dX3_alone_171 (by decide) ?_
                    refine z_ialdN C (4 + i) (wS_row (b := i) (by omega)) (by omega) (by decide) dX3_alone_172 (v := nI (zPr a i)) rfl ?_
                    have f_172b := ha.pr (b := i) (by omega)
                    refine z_istore_n C dX3_alone_173 (by decide) [(3, .int (nI (zPr a i))), (0, .ref (q 0)), (1, .int (nI f)), (2, .int (nI c)), (4, .int (nI i))] rfl ?_
                    refine z_iinc C dX3_alone_174 4 (nI (i + 1)) rfl (nI_add i 1) (by decide) [(4, .int (nI (i + 1))), (3, .int (nI (zPr a i))), (0, .ref (q 0)), (1, .int (nI f)), (2, .int (nI c))] rfl ?_
                    refine z_goto C 97 dX3_alone_177 (by decide) ?_
                    refine zW.pick (lv' := [(0, .ref (q 0)), (1, .int (nI f)), (2, .int (nI c)), (3, .int (nI (zPr a i))), (4, .int (nI (i + 1)))]) [2, 3, 4, 1, 0] rfl ?_
                    refine zW.lve (lv' := [(0, .ref (q 0)), (1, .int (nI f)), (2, .int (nI c)), (3, .int (nI (mMx a f (zCo a f ((zOw a c : Nat) : Int)) (i + 1)))), (4, .int (nI (i + 1)))]) (by rw [mMx_t (zCo_t (by simpa using c_113) c_128 (by omega)) (by omega)]) ?_
                    exact ih97 (i + 1) (by omega)
        exact hlp97 (zNb a) 0 (by omega)
    | succ j ih10 =>
      intro best hj hB
      have hbb : -1 ≤ best ∧ best < 12 := by rcases hB with ⟨e, -⟩ | ⟨c, -, e1, e2, -⟩ <;> omega
      refine zW.lve (lv' := [(0, .ref (q 0)), (1, .int (nI f)), (2, .int (iZ best)), (3, .int (nI j))]) (by rw [show (((j + 1 : Nat) : Int) - 1) = (j : Int) by omega]; rfl) ?_
      refine z_iload_n C dX3_alone_10 3 rfl ?_
      refine z_if_lt C 67 dX3_alone_11 (by decide) (zlt_N0 (by omega)) (fun h9 => absurd h9 (fun h => h)) (fun c_11 => ?_)
      refine z_aload_n C dX3_alone_14 0 rfl ?_
      refine z_iload_n C dX3_alone_15 3 rfl ?_
      refine z_callV C (c_X3_counts l g q a sm ha j (by omega)) (cwV 1 C.ts gX3_alone_X3_counts rfl rfl rfl (by decide +kernel) ⟨Nat.le_of_ble_eq_true rfl, Nat.le_of_ble_eq_true rfl⟩) wS_o rfl rfl rfl (Nat.le_of_ble_eq_true rfl) dX3_alone_16 ⟨by dsimp only; omega, by dsimp only; omega⟩ ?_
      rintro _ _ ⟨rfl, rfl⟩
      refine zW.eqst (st2 := [.int (bI (zCn a (zOu a) j))]) rfl ?_
      refine z_if_eq C 61 dX3_alone_19 (by decide) (zeq_B0 _) (fun c_19 => ?_) (fun c_19 => ?_)
      · skip
        refine z_iinc C dX3_alone_61 3 (iZ (((j : Nat) : Int) + -1)) rfl (iZ_add ((j : Nat) : Int) (-1)) (by decide) [(3, .int (iZ (((j : Nat) : Int) + -1))), (0, .ref (q 0)), (1, .int (nI f)), (2, .int (iZ best))] rfl ?_
        refine z_goto C 10 dX3_alone_64 (by decide) ?_
        refine zW.pick (lv' := [(0, .ref (q 0)), (1, .int (nI f)), (2, .int (iZ best)), (3, .int (iZ (((j : Nat) : Int) + -1)))]) [1, 2, 3, 0] rfl ?_
        exact ih10 best (by omega) (zHB_keep hB (Or.inl (zCo_f1 c_19)))
      · skip
        refine z_aload_n C dX3_alone_22 0 rfl ?_
        refine z_get C inX3_alone_X3 0 wS_o rfl 2 (by decide) (C.w 1 rfl) rfl dX3_alone_23 ?_
        refine z_iload_n C dX3_alone_26 3 rfl ?_
        refine z_aald C 3 wS_bi (by omega) (by omega) dX3_alone_27 (zPt_at (by omega)) ?_
        refine z_iconst C (nI 1) dX3_alone_28 (by decide) ?_
        refine z_ialdN C (4 + j) (wS_row (b := j) (by omega)) (by omega) (by decide) dX3_alone_29 (v := nI (zBu a j)) rfl ?_
        have f_29b := ha.bu8 (b := j) (by omega)
        refine z_iconst C (nI 1) dX3_alone_30 (by decide) ?_
        refine z_iload_n C dX3_alone_31 1 rfl ?_
        refine z_ishl C dX3_alone_32 (v := nI (2 ^ f)) (zshl_1N (by omega)) ?_
        refine z_icmp_ne C 61 dX3_alone_33 (by decide) (zeq_NN (by omega) (by omega)) (fun c_33 => ?_) (fun c_33 => ?_)
        · skip
          refine z_iinc C dX3_alone_61 3 (iZ (((j : Nat) : Int) + -1)) rfl (iZ_add ((j : Nat) : Int) (-1)) (by decide) [(3, .int (iZ (((j : Nat) : Int) + -1))), (0, .ref (q 0)), (1, .int (nI f)), (2, .int (iZ best))] rfl ?_
          refine z_goto C 10 dX3_alone_64 (by decide) ?_
          refine zW.pick (lv' := [(0, .ref (q 0)), (1, .int (nI f)), (2, .int (iZ best)), (3, .int (iZ (((j : Nat) : Int) + -1)))]) [1, 2, 3, 0] rfl ?_
          exact ih10 best (by omega) (zHB_keep hB (Or.inl (zCo_f2 c_33)))
        · skip
          refine z_iload_n C dX3_alone_36 2 rfl ?_
          refine z_if_lt C 59 dX3_alone_37 (by decide) (zlt_Z0 (by unfold zB31; omega)) (fun c_37 => ?_) (fun c_37 => ?_)
          · skip
            refine z_iload_n C dX3_alone_59 3 rfl ?_
            refine z_istore_n C dX3_alone_60 (by decide) [(2, .int (nI j)), (0, .ref (q 0)), (1, .int (nI f)), (3, .int (nI j))] rfl ?_
            refine z_iinc C dX3_alone_61 3 (iZ (((j : Nat) : Int) + -1)) rfl (iZ_add ((j : Nat) : Int) (-1)) (by decide) [(3, .int (iZ (((j : Nat) : Int) + -1))), (2, .int (nI j)), (0, .ref (q 0)), (1, .int (nI f))] rfl ?_
            refine z_goto C 10 dX3_alone_64 (by decide) ?_
            refine zW.pick (lv' := [(0, .ref (q 0)), (1, .int (nI f)), (2, .int (nI j)), (3, .int (iZ (((j : Nat) : Int) + -1)))]) [2, 3, 1, 0] rfl ?_
            exact ih10 ((j : Nat) : Int) (by omega) (zHB_new hB (by omega) (zCo_t (by simpa using c_19) c_33 (by omega)) (Or.inl (by omega)))
          · skip
            obtain ⟨c, hc, hbc⟩ : ∃ c : Nat, c < zNb a ∧ best = (c : Int) := by rcases hB with ⟨e, -⟩ | ⟨c, -, e1, e2, -⟩ <;> first | (exfalso; omega) | exact ⟨c, e1, e2⟩
            refine z_aload_n C dX3_alone_40 0 rfl ?_
            refine z_get C inX3_alone_X3 0 wS_o rfl 2 (by decide) (C.w 1 rfl) rfl dX3_alone_41 ?_
            refine z_iload_n C dX3_alone_44 3 rfl ?_
            refine z_aald C 3 wS_bi (by omega) (by omega) dX3_alone_45 (zPt_at (by omega)) ?_
            refine z_iconst C (nI 2) dX3_alone_46 (by decide) ?_
            refine z_ialdN C (4 + j) (wS_row (b := j) (by omega)) (by omega) (by decide) dX3_alone_47 (v := nI (zPr a j)) rfl ?_
            have f_47b := ha.pr (b := j) (by omega)
            refine z_aload_n C dX3_alone_48 0 rfl ?_
            refine z_get C inX3_alone_X3 0 wS_o rfl 2 (by decide) (C.w 1 rfl) rfl dX3_alone_49 ?_
            refine z_iload_n C dX3_alone_52 2 rfl ?_
            refine zW.top (y := nI c) (congrArg iZ hbc) ?_
            refine z_aald C 3 wS_bi (by omega) (by omega) dX3_alone_53 (zPt_at (by omega)) ?_
            refine z_iconst C (nI 2) dX3_alone_54 (by decide) ?_
            refine z_ialdN C (4 + c) (wS_row (b := c) (by omega)) (by omega) (by decide) dX3_alone_55 (v := nI (zPr a c)) rfl ?_
            have f_55b := ha.pr (b := c) (by omega)
            refine z_icmp_lt C 61 dX3_alone_56 (by decide) (zlt_NN (by omega) (by omega)) (fun c_56 => ?_) (fun c_56 => ?_)
            · skip
              refine z_iinc C dX3_alone_61 3 (iZ (((j : Nat) : Int) + -1)) rfl (iZ_add ((j : Nat) : Int) (-1)) (by decide) [(3, .int (iZ (((j : Nat) : Int) + -1))), (0, .ref (q 0)), (1, .int (nI f)), (2, .int (iZ best))] rfl ?_
              refine z_goto C 10 dX3_alone_64 (by decide) ?_
              refine zW.pick (lv' := [(0, .ref (q 0)), (1, .int (nI f)), (2, .int (iZ best)), (3, .int (iZ (((j : Nat) : Int) + -1)))]) [1, 2, 3, 0] rfl ?_
              exact ih10 best (by omega) (zHB_keep hB (Or.inr ⟨c, hbc, by omega⟩))
            · skip
              refine z_iload_n C dX3_alone_59 3 rfl ?_
              refine z_istore_n C dX3_alone_60 (by decide) [(2, .int (nI j)), (0, .ref (q 0)), (1, .int (nI f)), (3, .int (nI j))] rfl ?_
              refine z_iinc C dX3_alone_61 3 (iZ (((j : Nat) : Int) + -1)) rfl (iZ_add ((j : Nat) : Int) (-1)) (by decide) [(3, .int (iZ (((j : Nat) : Int) + -1))), (2, .int (nI j)), (0, .ref (q 0)), (1, .int (nI f))] rfl ?_
              refine z_goto C 10 dX3_alone_64 (by decide) ?_
              refine zW.pick (lv' := [(0, .ref (q 0)), (1, .int (nI f)), (2, .int (nI j)), (3, .int (iZ (((j : Nat) : Int) + -1)))]) [2, 3, 1, 0] rfl ?_
              exact ih10 ((j : Nat) : Int) (by omega) (zHB_new hB (by omega) (zCo_t (by simpa using c_19) c_33 (by omega)) (Or.inr ⟨c, hbc, by omega⟩))
  exact hlp10 (zNb a) (-1) (Nat.le_refl _) (zHB_0 a f)
end
