/-! methods that throw, and their catching -/
abbrev zISE : String := "java/lang/IllegalStateException"
abbrev zIAE : String := "java/lang/IllegalArgumentException"
abbrev zIOB : String := "java/lang/IndexOutOfBoundsException"
def zDL : List MethodName := [Bundle.initS "java/lang/RuntimeException", Bundle.initS "java/lang/Exception", Bundle.initS Bundle.tN]
/-- what a throw and its catching stand on beside zC -/
def zFx (A : Nat → Prop) (U : State) (H : Heap) : Prop := (vx_Zq Bundle.tN "UNASSIGNED_STACK" Bundle.steD A U H ∧ vx_Zq Bundle.tN "SUPPRESSED_SENTINEL" Bundle.listD A U H) ∧ va_Nc zISE zIAE U ∧ va_Nc zIAE zIOB U ∧ va_Nc zISE zIOB U ∧ ∀ x ∈ zDL, va_Nw (.declares x) U
theorem zFx.to {A B : Nat → Prop} {u U : State} {H H1 : Heap} (hW : u.WarmedH U.vm) (h : zFx A u H) (hq : ∀ a : Nat, a < H.size → ¬ A a → H1[a]? = H[a]?) (hAB : ∀ q, B q → A q) : zFx B U H1 :=
  ⟨⟨((h.1.1.moved hW.alike).kept hq).narrow hAB, ((h.1.2.moved hW.alike).kept hq).narrow hAB⟩, h.2.1.moved hW.alike, h.2.2.1.moved hW.alike, h.2.2.2.1.moved hW.alike, fun x hx => va_Nw.warmD hW (h.2.2.2.2 x hx)⟩
def zPX (g : zG) (As : List Value) (w : va_W) (sz : Nat) : Array Value → State → Prop := fun a U => zPc g As w sz a U ∧ zFx (va_A w sz) U U.heap
theorem zPX.blind {g : zG} {As : List Value} {w : va_W} {sz : Nat} : FrameBlind (zPX g As w sz) := fun a U f mk q => ⟨zPc.blind a U f mk q.1, q.2.to (State.WarmedH.refl U) (fun _ _ _ => rfl) (fun _ h => h)⟩
def zXC (g : zG) (w : va_W) (En : String) (A : Nat → Prop) : String → State → State → Prop := fun E9 st t => E9 = En ∧ va_P g.1 vwCl w t.heap ∧ va_D A w ∧ va_F A st t
/-- a method that throws: of the class En, the world as it was -/
def zX (g : zG) (l : Launch) (y : MethodName) (ws : List Cond) (rm : Room) (As : List Value) (w : va_W) (En : String) (mc ms : Nat) : Prop :=
  ∀ sz : Nat, vx_Met l y ws rm (zPX g As w sz) (fun _ _ _ _ => False) (zXC g w En (va_A w sz)) mc ms (va_A w sz)
/-- a method with handlers that returns -/
def zMH (g : zG) (l : Launch) (y : MethodName) (ws : List Cond) (rm : Room) (As : List Value) (w : va_W) (post : Option Value → va_W → Prop) (mc ms : Nat) : Prop :=
  ∀ sz : Nat, Met l y ws rm (zPX g As w sz) (zQ g post (va_A w sz)) mc ms (va_A w sz)
theorem zX.fr {g : zG} {l : Launch} {y : MethodName} {ws : List Cond} {rm : Room} {As : List Value} {w : va_W} {En : String} {mc ms : Nat} (h : zX g l y ws rm As w En mc ms) (a c : va_W) : zX g l y ws rm As ((a ++ w) ++ c) En mc ms := by
  intro sz p e ha hc hk s m args below hf happ hP hT
  obtain ⟨⟨e0, e1, qP, qK, qD⟩, qF⟩ := hP
  subst e1
  obtain ⟨t, o, h1, h2, h3, h4⟩ := h s.heap.size p e ha hc hk s m args below hf happ ⟨⟨e0, rfl, (zfP qP).2.1, qK, zfD qD⟩, qF.to (State.WarmedH.refl s) (fun _ _ _ => rfl) (fun _ h => zf_in h)⟩ hT
  refine ⟨t, o, h1, h2, h3, ?_⟩
  rcases h4 with ⟨h4, -⟩ | ⟨q9, e9, E9, ce, L, ⟨x1, x2, x3, x4⟩, y2, y3, y4, y5, y6, y7⟩
  · exact h4.elim
  · obtain ⟨g1, g2, g3⟩ := zf_go qP qD x2 x3 x4
    exact Or.inr ⟨q9, e9, E9, ce, L, ⟨x1, g1, g2, g3⟩, y2, y3, y4, y5, y6, fun z hz => zf_in (y7 z hz)⟩
theorem zMH.fr {g : zG} {l : Launch} {y : MethodName} {ws : List Cond} {rm : Room} {As : List Value} {w : va_W} {post : Option Value → va_W → Prop} {mc ms : Nat} (h : zMH g l y ws rm As w post mc ms) (a c : va_W) : zMH g l y ws rm As ((a ++ w) ++ c) (fun v W => ∃ w', post v w' ∧ W = (a ++ w') ++ c) mc ms := by
  intro sz p e ha hc hk s m args below hf happ hP hT
  obtain ⟨⟨e0, e1, qP, qK, qD⟩, qF⟩ := hP
  subst e1
  obtain ⟨t, o, h1, h2, h3, ⟨⟨⟨v, w', e1', e2, eP, eD⟩, hF⟩, L, hL1, hL2⟩⟩ := h s.heap.size p e ha hc hk s m args below hf happ ⟨⟨e0, rfl, (zfP qP).2.1, qK, zfD qD⟩, qF.to (State.WarmedH.refl s) (fun _ _ _ => rfl) (fun _ h => zf_in h)⟩ hT
  obtain ⟨g1, g2, g3⟩ := zf_go qP qD eP eD hF
  exact ⟨t, o, h1, h2, h3, ⟨⟨v, (a ++ w') ++ c, e1', ⟨w', e2, rfl⟩, g1, g2⟩, g3⟩, L, hL1, fun q hq => zf_in (hL2 q hq)⟩
section ZRX
variable {g : zG} {l : Launch} {R : Room} {E : zEnv} {Q : State → Prop} {nL cells slots : Nat} {ws ws' : va_W} {lv lv' : List (Nat × Value)} {st rest : List Value} {pc : Nat} {cc : ByteArray} {own : String} {Ts : List Cond} {ret : Option FieldType}
variable {post : Option Value → va_W → Prop} {mc ms : Nat} {En : String}
abbrev zXQ (g : zG) (E : zEnv) (w : va_W) (En : String) (mc ms : Nat) : State → Prop := vx_MQ (zbl E) (fun _ _ _ _ => False) (zXC g w En (zA E)) (za E) (zs E) mc ms (zA E)
theorem zX.of {y : MethodName} {rm : Room} {As : List Value} {w : va_W} {Ts' : List Cond} (hy : plainName y.cls = true) (hw : Ts = .code y cc nL ret :: Ts') (hn : (lg_sl As).length ≤ nL) (hlv : lv_args 0 As = lv)
    (body : ∀ E : zEnv, zC g E cc y.cls Ts nL ret → zFx (zA E) (zs E) (zs E).heap → (∀ x ∈ (zcd E).exceptionTable.toList, False) → zW g l rm E (zXQ g E w En mc ms) nL 0 0 w lv [] 0) : zX g l y Ts rm As w En mc ms := by
  intro sz
  refine vx_ofW hy hw ?_
  intro p e s m args below meth c s₁ B hml htb hv
  obtain ⟨⟨rfl, hsz, hP, hK, hD0⟩, hF⟩ := hv
  have hts := atoms_spec (ws := Ts) B.pre
  have hD := hD0.self (sz := s.heap.size)
  subst hsz
  have h := body (p, e, s, m, As.toArray, below, meth, c, va_A w s.heap.size) ⟨B.exec, B.bytes, hml, findClass_of_methodNamed B.named, hts, hK, fun q h => Or.inr h, B.notSynchronized, B.returns⟩ hF htb
  have hl := lv_entry As (n := nL) hn
  rw [hlv] at hl
  rw [lg_entry_eq]
  exact h s.heap [] _ hP hD va_S.rf hl
theorem zMH.of {y : MethodName} {rm : Room} {As : List Value} {w : va_W} {Ts' : List Cond} {hh : List (Nat × Nat × Nat × Nat)} (hy : plainName y.cls = true) (hw : Ts = .codeWith y cc nL ret hh :: Ts') (hn : (lg_sl As).length ≤ nL) (hlv : lv_args 0 As = lv)
    (body : ∀ E : zEnv, zC g E cc y.cls Ts nL ret → zFx (zA E) (zs E) (zs E).heap → (zcd E).exceptionTable.toList = tableOf hh → zW g l rm E (zMQ g E post mc ms) nL 0 0 w lv [] 0) : zMH g l y Ts rm As w post mc ms := by
  intro sz
  refine MetFree.of_bodyS (code := cc) (maxLocals := nL) (ret := ret) hy ?_ ?_
  · intro args s m h hn9
    obtain ⟨m9, meth, c, hn9', h1, h2, h3, h4, -, h5, h6, -⟩ := Cond.codeWith_spec (atoms_spec (ws := Ts) h _ (by rw [hw]; exact List.mem_cons_self))
    cases hn9.symm.trans hn9'
    exact ⟨meth, c, h1, h2, h3, h4, h5, h6⟩
  · intro p e s m args below meth c s₁ B hml hv _
    have hh0 : s₁.heap = s.heap := by rw [B.state]; rfl
    have hts := atoms_spec (ws := Ts) B.pre
    have htb := vx_table (x := y) B (hts _ (by rw [hw]; exact List.mem_cons_self))
    obtain ⟨⟨rfl, hsz, hP, hK, hD0⟩, hF⟩ := hv
    have hD := hD0.self (sz := s.heap.size)
    subst hsz
    have h := body (p, e, s, m, As.toArray, below, meth, c, va_A w s.heap.size) ⟨B.exec, B.bytes, hml, findClass_of_methodNamed B.named, hts, hK, fun q h => Or.inr h, B.notSynchronized, B.returns⟩ hF htb
    have hl := lv_entry As (n := nL) hn
    rw [hlv] at hl
    have h9 := h s.heap [] _ hP hD va_S.rf hl
    rw [← lg_entry_eq] at h9
    obtain ⟨t, a1, o, b1, b2, b3, b4⟩ := h9 s₁ hh0 (Stand.of_body B)
    exact ⟨t, o, a1, b1, b2, b3, b4⟩
theorem z_pxF {w : va_W} {H : Heap} {locs : List Loc} (hF : zFx (zA E) (zs E) (zs E).heap) (hD : va_D (zA E) w) (hS : va_S (zA E) (zs E).heap H locs) (hA : ∀ q, (zs E).heap.size ≤ q → zA E q) : ∀ U : State, U.heap = H → (zs E).WarmedH U.vm → zFx (va_A w H.size) U U.heap := by
  intro U hU hW
  rw [hU]
  refine hF.to hW hS.2.1 (fun q h => ?_)
  rcases h with ⟨k, e, h⟩ | h
  · exact hD.2 k (q, e) h
  · exact hA q (Nat.le_trans hS.1 h)
theorem z_pxS {w : va_W} {H : Heap} {locs : List Loc} {As : List Value} (hK : zK g (zs E)) (hF : zFx (zA E) (zs E) (zs E).heap) (hP : va_P g.1 vwCl w H) (hD : va_D (zA E) w) (hS : va_S (zA E) (zs E).heap H locs) (hA : ∀ q, (zs E).heap.size ≤ q → zA E q) : PreS (zs E) H (zPX g As w H.size) As :=
  ⟨zPX.blind, fun U hU hW => ⟨(z_pcS hK hP hD).2 U hU hW, z_pxF hF hD hS hA U hU hW⟩⟩
theorem z_pxV {w : va_W} {H : Heap} {locs : List Loc} {As : List Value} {q0 ci b : Nat} {fs : List Value} {Cn : String} {T : u_T} {N : Nat} (hK : zK g (zs E)) (hF : zFx (zA E) (zs E) (zs E).heap) (hP : va_P g.1 vwCl w H) (hD : va_D (zA E) w) (hS : va_S (zA E) (zs E).heap H locs) (hA : ∀ q, (zs E).heap.size ≤ q → zA E q) (he : w[q0]? = some (b, .inr (ci, fs))) (hc : vwCl[ci]? = some (Cn, T, N)) : PreV (zs E) H Cn b (zPX g (.ref b :: As) w H.size) As :=
  ⟨zPX.blind, (z_pcV (As := As) hK hP hD he hc).2.1, fun U hU hW => ⟨(z_pcV hK hP hD he hc).2.2 U hU hW, z_pxF hF hD hS hA U hU hW⟩⟩
theorem z_xin {w : va_W} {H : Heap} {locs : List Loc} (hD : va_D (zA E) w) (hS : va_S (zA E) (zs E).heap H locs) (hA : ∀ q, (zs E).heap.size ≤ q → zA E q) : ∀ q, va_A w H.size q → zA E q := by
  intro q h
  rcases h with ⟨k, e, h⟩ | h
  · exact hD.2 k (q, e) h
  · exact hA q (Nat.le_trans hS.1 h)
/-- where a call that throws leads: q9 thrown over the frame, the world as it was -/
def zXat (g : zG) (l : Launch) (R : Room) (E : zEnv) (Q : State → Prop) (nL cells slots : Nat) (ws : va_W) (En : String) (lv : List (Nat × Value)) (rest : List Value) (pc : Nat) : Prop :=
  ∀ (H : Heap) (locs : List Loc) (ls : Array Slot) (q9 : Addr) (ce : Cell), va_P g.1 vwCl ws H → va_D (zA E) ws → va_S (zA E) (zs E).heap H locs → lv_has ls nL lv → H[q9]? = some ce → ce.vm = .none → (zs E).vm.findClass En = some ce.cls →
    vx_W (zp E) l (ze E) R (zs E) (zm E) (za E) (zbl E) (zmt E) (zcd E) H locs cells slots Q (F0 (zm E) pc ls rest) q9
theorem z_goX {st0 : List Value} (hr : ∀ (H : Heap) (locs : List Loc) (ls : Array Slot), va_P g.1 vwCl ws H → va_D (zA E) ws → va_S (zA E) (zs E).heap H locs → lv_has ls nL lv → vx_Run (zp E) l (ze E) R (zs E) (zm E) (za E) (zbl E) (zmt E) (zcd E) H locs cells slots mc ms (F0 (zm E) pc ls st0) rest (fun _ _ _ => False) (zXC g ws En (va_A ws H.size)) (va_A ws H.size)) (hA : ∀ q, (zs E).heap.size ≤ q → zA E q)
    (kk : zXat g l R E Q nL (cells + mc) (slots + ms) ws En lv rest pc) : zW g l R E Q nL cells slots ws lv st0 pc := by
  intro H locs ls hP hD hS hl T hT X
  have hin := z_xin hD hS hA
  rcases hr H locs ls hP hD hS hl T hT X with ⟨v, st₀, t, T', L, h0, X', hL, e1, e2, hq, st9⟩ | ⟨q9, st₀, t, T', L, E9, ce, h0, X', hL, e1, e2, ⟨rfl, hP', hD', hF'⟩, hce, hcv, hcl, st9⟩
  · exact hq.elim
  · obtain ⟨hz, hk⟩ := hF'
    rw [h0] at hz hk
    obtain ⟨t2, a1, b1⟩ := kk T'.heap (locs ++ L) ls q9 ce (by rw [e1]; exact hP') hD
      ⟨Nat.le_trans hS.1 (by rw [e1]; exact hz), fun q h1 h2 => by rw [e1, hk q (Nat.lt_of_lt_of_le h1 hS.1) (fun z => h2 (hin q z))]; exact hS.2.1 q h1 h2, fun q hq => by
        rcases List.mem_append.mp hq with h | h
        · exact hS.2.2 q h
        · exact hin _ (hL q h)⟩ hl (by rw [e1]; exact hce) hcv hcl T' rfl X'
    exact ⟨t2, st9.trans a1, b1⟩
theorem z_xcallV (C : zC g E cc own Ts nL ret) (F : zFx (zA E) (zs E) (zs E).heap) {y : MethodName} {bytes : ByteArray} {maxL n index : Nat} {rt : Option FieldType} {wy : List Cond} {rm : Room} {As : List Value} {b q0 ci N : Nat} {fs : List Value} {Cn : String} {T : u_T}
    (hM : zX g l y wy rm (.ref b :: As) ws En mc ms) (cw : CallW R (zs E) (za E) own Cn index y bytes maxL rt wy rm mc ms n) (he : ws[q0]? = some (b, .inr (ci, fs))) (hc : vwCl[ci]? = some (Cn, T, N)) (hn : As.length = n) (hst : st = As.reverse ++ .ref b :: rest) (hr : (rest.map fun v => v.category).sum ≤ 8) (d : decode cc pc = .ok (.invokevirtual index, 3)) (hf : cells + mc ≤ R.cells ∧ slots + ms ≤ R.slots)
    (kk : zXat g l R E Q nL (cells + mc) (slots + ms) ws En lv rest pc) : zW g l R E Q nL cells slots ws lv st pc :=
  z_goX (fun H locs ls hP hD hS hl => vx_runV C.fx (hM H.size) cw (z_pxV C.K F hP hD hS C.A he hc) rfl hn hl.1 hst (lv_room hr) d hf) C.A kk
theorem z_xcallS (C : zC g E cc own Ts nL ret) (F : zFx (zA E) (zs E) (zs E).heap) {y : MethodName} {bytes : ByteArray} {maxL n index : Nat} {rt : Option FieldType} {wy : List Cond} {rm : Room} {As : List Value}
    (hM : zX g l y wy rm As ws En mc ms) (cw : CallB R (zs E) (za E) own index y bytes maxL rt wy rm mc ms n ∧ (Cond.static y).before (za E) (zs E) = true) (hn : As.length = n) (hst : st = As.reverse ++ rest) (hr : (rest.map fun v => v.category).sum ≤ 8) (d : decode cc pc = .ok (.invokestatic index, 3)) (hf : cells + mc ≤ R.cells ∧ slots + ms ≤ R.slots)
    (kk : zXat g l R E Q nL (cells + mc) (slots + ms) ws En lv rest pc) : zW g l R E Q nL cells slots ws lv st pc :=
  z_goX (fun H locs ls hP hD hS hl => vx_runS C.fx (hM H.size) cw (z_pxS C.K F hP hD hS C.A) rfl hn hl.1 hst (lv_room hr) d hf) C.A kk
/-- not caught -/
theorem z_xout (C : zC g E cc own Ts nL ret) (hT : ∀ x ∈ (zcd E).exceptionTable.toList, False) (hc : cells ≤ mc) (hs : slots ≤ ms) : zXat g l R E (zXQ g E ws En mc ms) nL cells slots ws En lv rest pc :=
  fun H locs ls q9 ce hP hD hS hl h1 h2 h3 => vx_out (fun x hx => (hT x hx).elim) C.lk h1 h2 h3 (fun t ht _ => ⟨rfl, by rw [ht]; exact hP, hD, hS.F ht⟩) hS.2.2 hc hs
/-- caught by the row x -/
theorem z_xcatch (C : zC g E cc own Ts nL ret) {nm : String} (pre : List ExceptionTableEntry) (x : ExceptionTableEntry) (suf : List ExceptionTableEntry) (hsplit : (zcd E).exceptionTable.toList = pre ++ x :: suf)
    (hpass : ∀ z ∈ pre, covers z pc = false ∨ (z.catchType ≠ 0 ∧ ∃ nm : String, (Cond.classLink own z.catchType nm).before (za E) (zs E) = true ∧ va_Nc En nm (zs E))) (hx : covers x pc = true) (h0 : x.catchType ≠ 0)
    (hlink : (Cond.classLink own x.catchType nm).before (za E) (zs E) = true) (hcast : (Cond.castable En nm).before (za E) (zs E) = true) (kk : ∀ q9 : Nat, zW g l R E Q nL cells slots ws lv [.ref q9] x.handlerPc) : zXat g l R E Q nL cells slots ws En lv rest pc :=
  fun H locs ls q9 ce hP hD hS hl h1 h2 h3 => vx_catch C.ow pre x suf hsplit hpass hx h0 hlink hcast h1 h2 h3 (kk q9 H locs ls hP hD hS hl)
theorem z_cast (C : zC g E cc own Ts nL ret) (i : Nat) {a b : String} (h : zNW[i]? = some (.castable a b)) : (Cond.castable a b).before (za E) (zs E) = true :=
  va_Nw.use rfl (C.K.2.1 _ (List.mem_of_getElem? h))
/-- throw new En(text) -/
theorem z_throwS (C : zC g E cc "PastureBids" Ts nL ret) (F : zFx (zA E) (zs E) (zs E).heap) (hT : ∀ x ∈ (zcd E).exceptionTable.toList, False) (hl9 : l.stackTraces = false) {text : String} {names : List String} {ik is ic : Nat} (k : Nat) (hsr : zSR[k]? = some (is, text)) (hcls : Bundle.fit En = true) (hnames : ∀ n ∈ names, Bundle.fit n = true)
    (hk : (Cond.classLink "PastureBids" ik En).before (za E) (zs E) = true) (hini : (Cond.initialized En).before (za E) (zs E) = true) (hat : ∀ w ∈ (vx_atS "PastureBids" ic En names).filter goodWord, w ∈ Ts) (hcast : (Cond.castable En En).before (za E) (zs E) = true) (hnot : ∀ w ∈ (vx_atS "PastureBids" ic En names).filter (fun w => !goodWord w), w ∈ [Cond.castable En En, .declares (Bundle.initS "java/lang/RuntimeException"), .declares (Bundle.initS "java/lang/Exception"), .declares (Bundle.initS Bundle.tN)])
    (hgood : ∀ w ∈ Cond.classLink "PastureBids" ik En :: Cond.initialized En :: vx_atS "PastureBids" ic En names, vx_ot w = true)
    (d0 : decode cc pc = .ok (.new ik, 3)) (d3 : decode cc (pc + 3) = .ok (.dup, 1)) (d4 : decode cc (pc + 4) = .ok (.ldc is, 2)) (d6 : decode cc (pc + 6) = .ok (.invokespecial ic, 3)) (d9 : decode cc (pc + 9) = .ok (.athrow, 1))
    (hRf : names.length + 3 < R.frames) (hRl : (st.map fun v => v.category).sum + (13 * (names.length + 1) + 43) ≤ R.locals) (hRc : cells + 1 ≤ R.cells) (hRs : slots + 6 ≤ R.slots) (hc : cells + 1 ≤ mc) (hs : slots + 6 ≤ ms) :
    zW g l R E (zXQ g E ws En mc ms) nL cells slots ws lv st pc := by
  intro H locs ls hP hD hS hl
  obtain ⟨sa, hsa⟩ := C.K.2.2 _ (List.mem_of_getElem? hsr)
  exact vx_throwS (names := names) C.x C.b hl9 C.ow hcls hnames hk hini hsa (vx_hat (fun w hw => C.ts w (hat w hw)) hnot (vx_c hcast (vx_c (va_Nw.use rfl (F.2.2.2.2 _ (List.mem_of_getElem? (i := 0) rfl))) (vx_c (va_Nw.use rfl (F.2.2.2.2 _ (List.mem_of_getElem? (i := 1) rfl))) (vx_c (va_Nw.use rfl (F.2.2.2.2 _ (List.mem_of_getElem? (i := 2) rfl))) vx_n))))) hgood F.1.1 F.1.2 hS (hl.1.trans C.2.2.1.symm) d0 d3 d4 d6 d9 (fun x hx => (hT x hx).elim) hRf hRl hRc hRs C.lk
    (fun t _ h1 h2 => ⟨rfl, hP.kept (fun k q hk => h2 q.1 (hP k q hk).lt), hD, ⟨Nat.le_trans hS.1 h1, fun q a1 a2 => by rw [h2 q (Nat.lt_of_lt_of_le a1 hS.1)]; exact hS.2.1 q a1 a2⟩⟩) hS.2.2 hc hs
end ZRX
