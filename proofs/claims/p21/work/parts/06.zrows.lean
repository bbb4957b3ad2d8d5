/-! the claim's nest mates, casts and texts (printed out of the Statement's tables) -/
def zNW : List Cond := [.fieldLinkNest "PastureBids" 149 "PastureBids$BestSet" "gained" "I" "PastureBids", .fieldLinkNest "PastureBids" 152 "PastureBids$BestSet" "bids" "I" "PastureBids", .fieldLinkNest "PastureBids" 117 "PastureBids$Sale" "winners" "LPastureBids$BestSet;" "PastureBids", .fieldLinkNest "PastureBids" 127 "PastureBids$Sale" "winningBids" "[I" "PastureBids", .fieldLinkNest "PastureBids" 130 "PastureBids$Sale" "paid" "[I" "PastureBids", .fieldLinkNest "PastureBids" 137 "PastureBids$Sale" "gainedWithout" "[I" "PastureBids", .methodLinkNest "PastureBids" 37 ⟨"PastureBids$Sale", "<init>", "()V"⟩ "PastureBids", .methodLinkNest "PastureBids$Sale" 11 ⟨"PastureBids$BestSet", "<init>", "()V"⟩ "PastureBids", .methodLinkNest "PastureBids" 47 ⟨"PastureBids$BestSet", "<init>", "()V"⟩ "PastureBids", .methodLinkNest "PastureBids" 232 ⟨"PastureBids$Sale", "clear", "()V"⟩ "PastureBids", .methodLinkNest "PastureBids$Sale" 28 ⟨"PastureBids$BestSet", "clear", "()V"⟩ "PastureBids", .methodLinkNest "PastureBids" 242 ⟨"PastureBids$BestSet", "clear", "()V"⟩ "PastureBids", .methodLinkNest "PastureBids" 247 ⟨"PastureBids$BestSet", "consider", "(II)V"⟩ "PastureBids", .methodLinkNest "PastureBids" 120 ⟨"PastureBids$BestSet", "has", "(I)Z"⟩ "PastureBids", .methodLinkNest "PastureBids" 163 ⟨"PastureBids$Sale", "totalPaid", "()I"⟩ "PastureBids", .methodLinkNest "PastureBidsLaw" 64 ⟨"PastureBidsLaw$Sim", "<init>", "()V"⟩ "PastureBidsLaw"]
def zNok (w : Cond) : Prop := (∃ (a : String) (i : Nat) (b n d h : String), w = .fieldLinkNest a i b n d h) ∨ (∃ (a : String) (i : Nat) (x : MethodName) (h : String), w = .methodLinkNest a i x h) ∨ ∃ (a b : String), w = .castable a b
theorem zNW_ok : ∀ w ∈ zNW, zNok w := List.forall_mem_cons.mpr ⟨Or.inl ⟨_, _, _, _, _, _, rfl⟩, List.forall_mem_cons.mpr ⟨Or.inl ⟨_, _, _, _, _, _, rfl⟩, List.forall_mem_cons.mpr ⟨Or.inl ⟨_, _, _, _, _, _, rfl⟩, List.forall_mem_cons.mpr ⟨Or.inl ⟨_, _, _, _, _, _, rfl⟩, List.forall_mem_cons.mpr ⟨Or.inl ⟨_, _, _, _, _, _, rfl⟩, List.forall_mem_cons.mpr ⟨Or.inl ⟨_, _, _, _, _, _, rfl⟩, List.forall_mem_cons.mpr ⟨Or.inr (Or.inl ⟨_, _, _, _, rfl⟩), List.forall_mem_cons.mpr ⟨Or.inr (Or.inl ⟨_, _, _, _, rfl⟩), List.forall_mem_cons.mpr ⟨Or.inr (Or.inl ⟨_, _, _, _, rfl⟩), List.forall_mem_cons.mpr ⟨Or.inr (Or.inl ⟨_, _, _, _, rfl⟩), List.forall_mem_cons.mpr ⟨Or.inr (Or.inl ⟨_, _, _, _, rfl⟩), List.forall_mem_cons.mpr ⟨Or.inr (Or.inl ⟨_, _, _, _, rfl⟩), List.forall_mem_cons.mpr ⟨Or.inr (Or.inl ⟨_, _, _, _, rfl⟩), List.forall_mem_cons.mpr ⟨Or.inr (Or.inl ⟨_, _, _, _, rfl⟩), List.forall_mem_cons.mpr ⟨Or.inr (Or.inl ⟨_, _, _, _, rfl⟩), List.forall_mem_cons.mpr ⟨Or.inr (Or.inl ⟨_, _, _, _, rfl⟩), fun _ h => absurd h List.not_mem_nil⟩⟩⟩⟩⟩⟩⟩⟩⟩⟩⟩⟩⟩⟩⟩⟩
/-! THE Z-LAYER: a body's walk over data alone. zW speaks of a world (a list of cells), a list of locals and a stack; every row of the kit that is used has a sister here. -/
abbrev zG : Type := va_G × ClassId × ClassId × ClassId
abbrev zI (g : zG) : ClassId := g.2.1
abbrev zZ (g : zG) : ClassId := g.2.2.1
abbrev zJ (g : zG) : ClassId := g.2.2.2
def zT (g : zG) : List (ClassId × FieldType) := [(zI g, .int), (zZ g, .boolean), (zJ g, .array .int)]
abbrev zEnv : Type := Program × Env × State × MethodId × Array Value × List Frame × Method × Code × (Nat → Prop)
abbrev zp (E : zEnv) : Program := E.1
abbrev ze (E : zEnv) : Env := E.2.1
abbrev zs (E : zEnv) : State := E.2.2.1
abbrev zm (E : zEnv) : MethodId := E.2.2.2.1
abbrev za (E : zEnv) : Array Value := E.2.2.2.2.1
abbrev zbl (E : zEnv) : List Frame := E.2.2.2.2.2.1
abbrev zmt (E : zEnv) : Method := E.2.2.2.2.2.2.1
abbrev zcd (E : zEnv) : Code := E.2.2.2.2.2.2.2.1
abbrev zA (E : zEnv) : Nat → Prop := E.2.2.2.2.2.2.2.2
theorem zNok.warm {w : Cond} (hw : zNok w) {s U : State} (hW : s.WarmedH U.vm) (h : va_Nw w s) : va_Nw w U := by
  rcases hw with ⟨a, i, b, n, d, h9, rfl⟩ | ⟨a, i, x9, h9, rfl⟩ | ⟨a, b, rfl⟩
  · exact va_Nw.warmF hW h
  · exact va_Nw.warmM hW h
  · exact va_Nw.warmC hW h
theorem zNok.same {w : Cond} (hw : zNok w) {u U : State} (hv : u.vm = U.vm) (h : va_Nw w u) : va_Nw w U := by
  rcases hw with ⟨a, i, b, n, d, h9, rfl⟩ | ⟨a, i, x9, h9, rfl⟩ | ⟨a, b, rfl⟩
  · exact va_Nw.same rfl hv h
  · exact va_Nw.same rfl hv h
  · exact va_Nw.same rfl hv h
/-- what the tables say of an array of rows -/
def zKA (g : zG) (U : State) : Prop := ∃ kA : Class, U.vm.classes[zJ g]? = some kA ∧ kA.kind = .array (zI g) (.array .int)
theorem zKA.moved {g : zG} {u U : State} (hvm : u.vm.Alike U.vm) (h : zKA g u) : zKA g U := by
  obtain ⟨kA, h1, h2⟩ := h
  obtain ⟨k', hk', he⟩ := hvm.2.2 _ _ h1
  exact ⟨k', hk', by rw [he]; exact h2⟩
/-- what the tables say of making an array of rows -/
def zAO (U : State) : Prop := (Cond.arrayOver (.array .int)).before #[] U = true
theorem zAO.moved {u U : State} (hvm : u.vm.Alike U.vm) (h : zAO u) : zAO U := by
  obtain ⟨comp, c, k, h1, h2, h3, h4, h5⟩ := arrayOverA_spec h
  obtain ⟨k', hk', he⟩ := hvm.2.2 _ _ h3
  have hb : u.vm.bare = U.vm.bare := by first | exact hvm.bare_eq | exact hvm.bare_eq.symm
  have hi : (U.vm.classes.findIdx? fun (x : Class) => match x.kind with | .array component _ => component == comp | _ => false) = some c :=
    (va_idx_bare U.vm comp).symm.trans ((congrArg (fun v : Vm => v.classes.findIdx? fun (x : Class) => match x.kind with | .array component _ => component == comp | _ => false) hb.symm).trans ((va_idx_bare u.vm comp).trans h2))
  have hkind : k'.kind = .array comp (.array .int) := by rw [he]; exact h4
  have f1 : U.vm.findClass (FieldType.array .int).toString = some comp := by rw [hvm.findClass]; exact h1
  have f2 : U.vm.findClass ("[" ++ (FieldType.array .int).toString) = some c := by rw [hvm.findClass]; exact h5
  unfold zAO Cond.before Cond.holds
  simp only [Cond.value]
  rw [f1, Option.bind_some]
  refine (congrArg (fun o : Option Nat => (o.bind (fun c => (U.vm.classes[c]?).map fun (k : Class) => match k.kind with | .array _ ty => decide (ty = FieldType.array .int) && decide (U.vm.findClass ("[" ++ (FieldType.array .int).toString) = some c) | _ => false) == some true)) hi).trans ?_
  simp [hk', hkind, f2]
/-- what the tables say of classes, arrays, nest mates -/
def zK (g : zG) (U : State) : Prop := va_K g.1 vwCl (zT g) U ∧ (∀ w ∈ zNW, va_Nw w U) ∧ zKA g U ∧ zAO U
theorem zK.warm {g : zG} {s U : State} (hW : s.WarmedH U.vm) (h : zK g s) : zK g U := ⟨va_K.moved hW.alike h.1, fun w hw => (zNW_ok w hw).warm hW (h.2.1 w hw), h.2.2.1.moved hW.alike, h.2.2.2.moved hW.alike⟩
theorem zK.call {g : zG} {U : State} {f : JFrame} {mk : MethodId} {a : Array Value} (h : zK g U) : zK g (U.calling f mk a) :=
  ⟨va_K.moved (u := U) (U := U.calling f mk a) (Vm.Alike.refl U.vm) h.1, fun w hw => (zNW_ok w hw).same (u := U) rfl (h.2.1 w hw), h.2.2.1.moved (u := U) (U := U.calling f mk a) (Vm.Alike.refl U.vm), h.2.2.2.moved (u := U) (U := U.calling f mk a) (Vm.Alike.refl U.vm)⟩
def zW (g : zG) (l : Launch) (R : Room) (E : zEnv) (Q : State → Prop) (nL cells slots : Nat) (ws : va_W) (lv : List (Nat × Value)) (st : List Value) (pc : Nat) : Prop :=
  ∀ (H : Heap) (locs : List Loc) (ls : Array Slot), va_P g.1 vwCl ws H → va_D (zA E) ws → va_S (zA E) (zs E).heap H locs → lv_has ls nL lv →
    W (zp E) l (ze E) R (zs E) (zm E) (za E) (zbl E) (zmt E) (zcd E) H locs cells slots Q (F0 (zm E) pc ls st)
/-- what a body stands on -/
def zC (g : zG) (E : zEnv) (cc : ByteArray) (own : String) (Ts : List Cond) (nL : Nat) (ret : Option FieldType) : Prop :=
  (zp E).tables.exec = Jvm.exec ∧ (zcd E).code = cc ∧ (zcd E).maxLocals = nL ∧ (zs E).vm.findClass own = some (zm E).cls ∧ (∀ w ∈ Ts, w.before (za E) (zs E) = true) ∧ zK g (zs E) ∧ (∀ q, (zs E).heap.size ≤ q → zA E q) ∧ (zmt E).locks = false ∧ (zmt E).sig.returnType = ret
section ZR
variable {g : zG} {l : Launch} {R : Room} {E : zEnv} {Q : State → Prop} {nL cells slots : Nat} {ws : va_W} {lv lv' : List (Nat × Value)} {st : List Value} {pc : Nat} {cc : ByteArray} {own : String} {Ts : List Cond} {ret : Option FieldType}
theorem zC.x (C : zC g E cc own Ts nL ret) : (zp E).tables.exec = Jvm.exec := C.1
theorem zC.b (C : zC g E cc own Ts nL ret) : (zcd E).code = cc := C.2.1
theorem zC.ow (C : zC g E cc own Ts nL ret) : (zs E).vm.findClass own = some (zm E).cls := C.2.2.2.1
theorem zC.ts (C : zC g E cc own Ts nL ret) : ∀ w ∈ Ts, w.before (za E) (zs E) = true := C.2.2.2.2.1
theorem zC.K (C : zC g E cc own Ts nL ret) : zK g (zs E) := C.2.2.2.2.2.1
theorem zC.A (C : zC g E cc own Ts nL ret) : ∀ q, (zs E).heap.size ≤ q → zA E q := C.2.2.2.2.2.2.1
theorem zC.lk (C : zC g E cc own Ts nL ret) : (zmt E).locks = false := C.2.2.2.2.2.2.2.1
theorem zC.r (C : zC g E cc own Ts nL ret) : (zmt E).sig.returnType = ret := C.2.2.2.2.2.2.2.2
theorem zC.w (C : zC g E cc own Ts nL ret) (i : Nat) {w : Cond} (h : Ts[i]? = some w) : w.before (za E) (zs E) = true := C.ts w (List.mem_of_getElem? h)
theorem zC.fx (C : zC g E cc own Ts nL ret) : CallFix (zp E) (zm E) (zcd E) cc nL (zs E) (za E) Ts own := ⟨C.1, C.2.1, C.2.2.1, C.2.2.2.1, C.2.2.2.2.1⟩
theorem zW.eqw {ws2 : va_W} (h : ws = ws2) (k : zW g l R E Q nL cells slots ws2 lv st pc) : zW g l R E Q nL cells slots ws lv st pc := h ▸ k
theorem zW.eqst {st2 : List Value} (h : st = st2) (k : zW g l R E Q nL cells slots ws lv st2 pc) : zW g l R E Q nL cells slots ws lv st pc := h ▸ k
theorem zW.top {x y : Int32} (h : x = y) (k : zW g l R E Q nL cells slots ws lv (.int y :: st) pc) : zW g l R E Q nL cells slots ws lv (.int x :: st) pc := h ▸ k
theorem zW.topl {x y : Int64} (h : x = y) (k : zW g l R E Q nL cells slots ws lv (.long y :: st) pc) : zW g l R E Q nL cells slots ws lv (.long x :: st) pc := h ▸ k
theorem zW.pick (is : List Nat) (h : lv_pick lv is = lv') (k : zW g l R E Q nL cells slots ws lv' st pc) : zW g l R E Q nL cells slots ws lv st pc :=
  fun H locs ls hP hD hS hl => k H locs ls hP hD hS (lv_sub hl is h)
theorem zW.wid {k n : Nat} (h1 : cells ≤ k) (h2 : slots ≤ n) (kk : zW g l R E Q nL k n ws lv st pc) : zW g l R E Q nL cells slots ws lv st pc :=
  fun H locs ls hP hD hS hl => W.widen h1 h2 (kk H locs ls hP hD hS hl)
-- constants, loads, stores
theorem z_iconst (C : zC g E cc own Ts nL ret) {n : Int} (v : Int32) (d : decode cc pc = .ok (.iconst n, 1)) (hv : Int32.ofInt n = v) (k : zW g l R E Q nL cells slots ws lv (.int v :: st) (pc + 1)) : zW g l R E Q nL cells slots ws lv st pc :=
  fun H locs ls hP hD hS hl => lv_iconst C.x C.b d hv (k H locs ls hP hD hS hl)
theorem z_bipush (C : zC g E cc own Ts nL ret) {n : Int} (v : Int32) (d : decode cc pc = .ok (.bipush n, 2)) (hv : (Int8.ofInt n).toInt32 = v) (k : zW g l R E Q nL cells slots ws lv (.int v :: st) (pc + 2)) : zW g l R E Q nL cells slots ws lv st pc :=
  fun H locs ls hP hD hS hl => lv_bipush C.x C.b d hv (k H locs ls hP hD hS hl)
theorem z_sipush (C : zC g E cc own Ts nL ret) {n : Int} (v : Int32) (d : decode cc pc = .ok (.sipush n, 3)) (hv : (Int16.ofInt n).toInt32 = v) (k : zW g l R E Q nL cells slots ws lv (.int v :: st) (pc + 3)) : zW g l R E Q nL cells slots ws lv st pc :=
  fun H locs ls hP hD hS hl => lv_sipush C.x C.b d hv (k H locs ls hP hD hS hl)
theorem z_lconst (C : zC g E cc own Ts nL ret) {n : Fin 2} (v : Int64) (d : decode cc pc = .ok (.lconst n, 1)) (hv : Int64.ofNat (n : Nat) = v) (k : zW g l R E Q nL cells slots ws lv (.long v :: st) (pc + 1)) : zW g l R E Q nL cells slots ws lv st pc :=
  fun H locs ls hP hD hS hl => lv_lconst C.x C.b d hv (k H locs ls hP hD hS hl)
theorem z_ldc (C : zC g E cc own Ts nL ret) {index : Nat} (v : Int32) (hc : (Jvm.Cond.constant own index v).before (za E) (zs E) = true) (d : decode cc pc = .ok (.ldc index, 2)) (k : zW g l R E Q nL cells slots ws lv (.int v :: st) (pc + 2)) : zW g l R E Q nL cells slots ws lv st pc :=
  fun H locs ls hP hD hS hl => lv_ldc C.x C.b C.ow hc d (k H locs ls hP hD hS hl)
theorem z_ldcw (C : zC g E cc own Ts nL ret) {index : Nat} (v : Int32) (hc : (Jvm.Cond.constant own index v).before (za E) (zs E) = true) (d : decode cc pc = .ok (.ldc_w index, 3)) (k : zW g l R E Q nL cells slots ws lv (.int v :: st) (pc + 3)) : zW g l R E Q nL cells slots ws lv st pc :=
  fun H locs ls hP hD hS hl => lv_ldcw C.x C.b C.ow hc d (k H locs ls hP hD hS hl)
theorem z_ldc2 (C : zC g E cc own Ts nL ret) {index : Nat} (v : Int64) (hc : (Jvm.Cond.constantLong own index v).before (za E) (zs E) = true) (d : decode cc pc = .ok (.ldc2_w index, 3)) (k : zW g l R E Q nL cells slots ws lv (.long v :: st) (pc + 3)) : zW g l R E Q nL cells slots ws lv st pc :=
  fun H locs ls hP hD hS hl => lv_ldc2 C.x C.b C.ow hc d (k H locs ls hP hD hS hl)
theorem z_iload_n (C : zC g E cc own Ts nL ret) {n : Fin 4} (d : decode cc pc = .ok (.iload_n n, 1)) (j : Nat) {x : Int32} (h : lv[j]? = some ((n : Nat), .int x)) (k : zW g l R E Q nL cells slots ws lv (.int x :: st) (pc + 1)) : zW g l R E Q nL cells slots ws lv st pc :=
  fun H locs ls hP hD hS hl => lv_iload_n C.x C.b d rfl (lv_at hl j h) (k H locs ls hP hD hS hl)
theorem z_iload (C : zC g E cc own Ts nL ret) {n : Nat} (d : decode cc pc = .ok (.iload n, 2)) (j : Nat) {x : Int32} (h : lv[j]? = some (n, .int x)) (k : zW g l R E Q nL cells slots ws lv (.int x :: st) (pc + 2)) : zW g l R E Q nL cells slots ws lv st pc :=
  fun H locs ls hP hD hS hl => lv_iload C.x C.b d (lv_at hl j h) (k H locs ls hP hD hS hl)
theorem z_lload_n (C : zC g E cc own Ts nL ret) {n : Fin 4} (d : decode cc pc = .ok (.lload_n n, 1)) (j : Nat) {x : Int64} (h : lv[j]? = some ((n : Nat), .long x)) (k : zW g l R E Q nL cells slots ws lv (.long x :: st) (pc + 1)) : zW g l R E Q nL cells slots ws lv st pc :=
  fun H locs ls hP hD hS hl => lv_lload_n C.x C.b d rfl (lv_at hl j h) (k H locs ls hP hD hS hl)
theorem z_lload (C : zC g E cc own Ts nL ret) {n : Nat} (d : decode cc pc = .ok (.lload n, 2)) (j : Nat) {x : Int64} (h : lv[j]? = some (n, .long x)) (k : zW g l R E Q nL cells slots ws lv (.long x :: st) (pc + 2)) : zW g l R E Q nL cells slots ws lv st pc :=
  fun H locs ls hP hD hS hl => lv_lload C.x C.b d (lv_at hl j h) (k H locs ls hP hD hS hl)
theorem z_dload (C : zC g E cc own Ts nL ret) {n : Nat} (d : decode cc pc = .ok (.dload n, 2)) (j : Nat) {x : UInt64} (h : lv[j]? = some (n, .double x)) (k : zW g l R E Q nL cells slots ws lv (.double x :: st) (pc + 2)) : zW g l R E Q nL cells slots ws lv st pc :=
  fun H locs ls hP hD hS hl => lv_dload C.x C.b d (lv_at hl j h) (k H locs ls hP hD hS hl)
theorem z_aload_n (C : zC g E cc own Ts nL ret) {n : Fin 4} (d : decode cc pc = .ok (.aload_n n, 1)) (j : Nat) {x : Nat} (h : lv[j]? = some ((n : Nat), .ref x)) (k : zW g l R E Q nL cells slots ws lv (.ref x :: st) (pc + 1)) : zW g l R E Q nL cells slots ws lv st pc :=
  fun H locs ls hP hD hS hl => lv_aload_n C.x C.b d rfl (lv_at hl j h) (k H locs ls hP hD hS hl)
theorem z_aload (C : zC g E cc own Ts nL ret) {n : Nat} (d : decode cc pc = .ok (.aload n, 2)) (j : Nat) {x : Nat} (h : lv[j]? = some (n, .ref x)) (k : zW g l R E Q nL cells slots ws lv (.ref x :: st) (pc + 2)) : zW g l R E Q nL cells slots ws lv st pc :=
  fun H locs ls hP hD hS hl => lv_aload C.x C.b d (lv_at hl j h) (k H locs ls hP hD hS hl)
def zst1 (i : Nat) (v : Value) (lv : List (Nat × Value)) : List (Nat × Value) := (i, v) :: lv.filter (fun q => !(q.1 == i) && !(q.1 + 1 == i && q.2.category == 2))
def zst2 (i : Nat) (v : Value) (lv : List (Nat × Value)) : List (Nat × Value) := (i, v) :: lv.filter (fun q => !(q.1 == i) && (!(q.1 == i + 1) && !(q.1 + 1 == i && q.2.category == 2)))
theorem z_istore_n (C : zC g E cc own Ts nL ret) {n : Fin 4} (d : decode cc pc = .ok (.istore_n n, 1)) {x : Int32} (hn : (n : Nat) < nL) (lv' : List (Nat × Value)) (hl9 : zst1 n (.int x) lv = lv') (k : zW g l R E Q nL cells slots ws lv' st (pc + 1)) : zW g l R E Q nL cells slots ws lv (.int x :: st) pc :=
  fun H locs ls hP hD hS hl => lv_istore_n C.x C.b d rfl hl hn hl9 (fun ls' hl' => k H locs ls' hP hD hS hl')
theorem z_istore (C : zC g E cc own Ts nL ret) {n : Nat} (d : decode cc pc = .ok (.istore n, 2)) {x : Int32} (hn : n < nL) (lv' : List (Nat × Value)) (hl9 : zst1 n (.int x) lv = lv') (k : zW g l R E Q nL cells slots ws lv' st (pc + 2)) : zW g l R E Q nL cells slots ws lv (.int x :: st) pc :=
  fun H locs ls hP hD hS hl => lv_istore C.x C.b d hl hn hl9 (fun ls' hl' => k H locs ls' hP hD hS hl')
theorem z_lstore_n (C : zC g E cc own Ts nL ret) {n : Fin 4} (d : decode cc pc = .ok (.lstore_n n, 1)) {x : Int64} (hn : (n : Nat) + 1 < nL) (lv' : List (Nat × Value)) (hl9 : zst2 n (.long x) lv = lv') (k : zW g l R E Q nL cells slots ws lv' st (pc + 1)) : zW g l R E Q nL cells slots ws lv (.long x :: st) pc :=
  fun H locs ls hP hD hS hl => lv_lstore_n C.x C.b d rfl hl hn hl9 (fun ls' hl' => k H locs ls' hP hD hS hl')
theorem z_lstore (C : zC g E cc own Ts nL ret) {n : Nat} (d : decode cc pc = .ok (.lstore n, 2)) {x : Int64} (hn : n + 1 < nL) (lv' : List (Nat × Value)) (hl9 : zst2 n (.long x) lv = lv') (k : zW g l R E Q nL cells slots ws lv' st (pc + 2)) : zW g l R E Q nL cells slots ws lv (.long x :: st) pc :=
  fun H locs ls hP hD hS hl => lv_lstore C.x C.b d hl hn hl9 (fun ls' hl' => k H locs ls' hP hD hS hl')
theorem z_dstore (C : zC g E cc own Ts nL ret) {n : Nat} (d : decode cc pc = .ok (.dstore n, 2)) {x : UInt64} (hn : n + 1 < nL) (lv' : List (Nat × Value)) (hl9 : zst2 n (.double x) lv = lv') (k : zW g l R E Q nL cells slots ws lv' st (pc + 2)) : zW g l R E Q nL cells slots ws lv (.double x :: st) pc :=
  fun H locs ls hP hD hS hl => lv_dstore C.x C.b d hl hn hl9 (fun ls' hl' => k H locs ls' hP hD hS hl')
theorem z_astore_n (C : zC g E cc own Ts nL ret) {n : Fin 4} (d : decode cc pc = .ok (.astore_n n, 1)) {x : Nat} (hn : (n : Nat) < nL) (lv' : List (Nat × Value)) (hl9 : zst1 n (.ref x) lv = lv') (k : zW g l R E Q nL cells slots ws lv' st (pc + 1)) : zW g l R E Q nL cells slots ws lv (.ref x :: st) pc :=
  fun H locs ls hP hD hS hl => lv_astore_n C.x C.b d rfl hl hn hl9 (fun ls' hl' => k H locs ls' hP hD hS hl')
theorem z_astore (C : zC g E cc own Ts nL ret) {n : Nat} (d : decode cc pc = .ok (.astore n, 2)) {x : Nat} (hn : n < nL) (lv' : List (Nat × Value)) (hl9 : zst1 n (.ref x) lv = lv') (k : zW g l R E Q nL cells slots ws lv' st (pc + 2)) : zW g l R E Q nL cells slots ws lv (.ref x :: st) pc :=
  fun H locs ls hP hD hS hl => lv_astore C.x C.b d hl hn hl9 (fun ls' hl' => k H locs ls' hP hD hS hl')
theorem z_iinc (C : zC g E cc own Ts nL ret) {i : Nat} {n : Int} (d : decode cc pc = .ok (.iinc i n, 3)) (j : Nat) {x : Int32} (v : Int32) (h : lv[j]? = some (i, .int x)) (hv : x + Int32.ofInt n = v) (hn : i < nL) (lv' : List (Nat × Value)) (hl9 : zst1 i (.int v) lv = lv') (k : zW g l R E Q nL cells slots ws lv' st (pc + 3)) : zW g l R E Q nL cells slots ws lv st pc :=
  fun H locs ls hP hD hS hl => lv_iinc C.x C.b d hl h hv hn hl9 (fun ls' hl' => k H locs ls' hP hD hS hl')
theorem z_dup (C : zC g E cc own Ts nL ret) {v : Value} (d : decode cc pc = .ok (.dup, 1)) (hv : v.category = 1) (k : zW g l R E Q nL cells slots ws lv (v :: v :: st) (pc + 1)) : zW g l R E Q nL cells slots ws lv (v :: st) pc :=
  fun H locs ls hP hD hS hl => lv_dup C.x C.b d hv (k H locs ls hP hD hS hl)
theorem z_pop (C : zC g E cc own Ts nL ret) {v : Value} (d : decode cc pc = .ok (.pop, 1)) (hv : v.category = 1) (k : zW g l R E Q nL cells slots ws lv st (pc + 1)) : zW g l R E Q nL cells slots ws lv (v :: st) pc :=
  fun H locs ls hP hD hS hl => lv_pop C.x C.b d hv (k H locs ls hP hD hS hl)
theorem z_goto (C : zC g E cc own Ts nL ret) {off : Int} (tgt : Nat) (d : decode cc pc = .ok (.goto off, 3)) (ht : (pc : Int) + off = (tgt : Int)) (k : zW g l R E Q nL cells slots ws lv st tgt) : zW g l R E Q nL cells slots ws lv st pc :=
  fun H locs ls hP hD hS hl => lv_goto C.x C.b d ht (k H locs ls hP hD hS hl)
-- arithmetic: the answer as it is wanted
theorem z_iadd (C : zC g E cc own Ts nL ret) {x y : Int32} (d : decode cc pc = .ok (.iadd, 1)) {v : Int32} (hv : x + y = v) (k : zW g l R E Q nL cells slots ws lv (.int v :: st) (pc + 1)) : zW g l R E Q nL cells slots ws lv (.int y :: .int x :: st) pc := by
  subst hv; exact fun H locs ls hP hD hS hl => lv_iadd C.x C.b d (k H locs ls hP hD hS hl)
theorem z_isub (C : zC g E cc own Ts nL ret) {x y : Int32} (d : decode cc pc = .ok (.isub, 1)) {v : Int32} (hv : x - y = v) (k : zW g l R E Q nL cells slots ws lv (.int v :: st) (pc + 1)) : zW g l R E Q nL cells slots ws lv (.int y :: .int x :: st) pc := by
  subst hv; exact fun H locs ls hP hD hS hl => lv_isub C.x C.b d (k H locs ls hP hD hS hl)
theorem z_imul (C : zC g E cc own Ts nL ret) {x y : Int32} (d : decode cc pc = .ok (.imul, 1)) {v : Int32} (hv : x * y = v) (k : zW g l R E Q nL cells slots ws lv (.int v :: st) (pc + 1)) : zW g l R E Q nL cells slots ws lv (.int y :: .int x :: st) pc := by
  subst hv; exact fun H locs ls hP hD hS hl => lv_imul C.x C.b d (k H locs ls hP hD hS hl)
theorem z_iand (C : zC g E cc own Ts nL ret) {x y : Int32} (d : decode cc pc = .ok (.iand, 1)) {v : Int32} (hv : x &&& y = v) (k : zW g l R E Q nL cells slots ws lv (.int v :: st) (pc + 1)) : zW g l R E Q nL cells slots ws lv (.int y :: .int x :: st) pc := by
  subst hv; exact fun H locs ls hP hD hS hl => lv_iand C.x C.b d (k H locs ls hP hD hS hl)
theorem z_ior (C : zC g E cc own Ts nL ret) {x y : Int32} (d : decode cc pc = .ok (.ior, 1)) {v : Int32} (hv : x ||| y = v) (k : zW g l R E Q nL cells slots ws lv (.int v :: st) (pc + 1)) : zW g l R E Q nL cells slots ws lv (.int y :: .int x :: st) pc := by
  subst hv; exact fun H locs ls hP hD hS hl => lv_ior C.x C.b d (k H locs ls hP hD hS hl)
theorem z_ixor (C : zC g E cc own Ts nL ret) {x y : Int32} (d : decode cc pc = .ok (.ixor, 1)) {v : Int32} (hv : x ^^^ y = v) (k : zW g l R E Q nL cells slots ws lv (.int v :: st) (pc + 1)) : zW g l R E Q nL cells slots ws lv (.int y :: .int x :: st) pc := by
  subst hv; exact fun H locs ls hP hD hS hl => lv_ixor C.x C.b d (k H locs ls hP hD hS hl)
end ZR
section ZR2
variable {g : zG} {l : Launch} {R : Room} {E : zEnv} {Q : State → Prop} {nL cells slots : Nat} {ws ws' : va_W} {lv lv' : List (Nat × Value)} {st : List Value} {pc : Nat} {cc : ByteArray} {own : String} {Ts : List Cond} {ret : Option FieldType}
theorem z_ishl (C : zC g E cc own Ts nL ret) {x y : Int32} (d : decode cc pc = .ok (.ishl, 1)) {v : Int32} (hv : x <<< (y &&& 31) = v) (k : zW g l R E Q nL cells slots ws lv (.int v :: st) (pc + 1)) : zW g l R E Q nL cells slots ws lv (.int y :: .int x :: st) pc := by
  subst hv; exact fun H locs ls hP hD hS hl => lv_ishl C.x C.b d (k H locs ls hP hD hS hl)
theorem z_ishr (C : zC g E cc own Ts nL ret) {x y : Int32} (d : decode cc pc = .ok (.ishr, 1)) {v : Int32} (hv : x >>> (y &&& 31) = v) (k : zW g l R E Q nL cells slots ws lv (.int v :: st) (pc + 1)) : zW g l R E Q nL cells slots ws lv (.int y :: .int x :: st) pc := by
  subst hv; exact fun H locs ls hP hD hS hl => lv_ishr C.x C.b d (k H locs ls hP hD hS hl)
theorem z_iushr (C : zC g E cc own Ts nL ret) {x y : Int32} (d : decode cc pc = .ok (.iushr, 1)) {v : Int32} (hv : (x.toUInt32 >>> (y.toUInt32 &&& Int32.toUInt32 31)).toInt32 = v) (k : zW g l R E Q nL cells slots ws lv (.int v :: st) (pc + 1)) : zW g l R E Q nL cells slots ws lv (.int y :: .int x :: st) pc :=
  fun H locs ls hP hD hS hl => lv_iushr C.x C.b d hv (k H locs ls hP hD hS hl)
theorem z_idiv (C : zC g E cc own Ts nL ret) {x y : Int32} (d : decode cc pc = .ok (.idiv, 1)) (hne : ¬ y = 0) {v : Int32} (hv : x / y = v) (k : zW g l R E Q nL cells slots ws lv (.int v :: st) (pc + 1)) : zW g l R E Q nL cells slots ws lv (.int y :: .int x :: st) pc := by
  subst hv; exact fun H locs ls hP hD hS hl => lv_idiv C.x C.b d hne (k H locs ls hP hD hS hl)
theorem z_i2l (C : zC g E cc own Ts nL ret) {x : Int32} {v : Int64} (d : decode cc pc = .ok (.i2l, 1)) (hv : x.toInt64 = v) (k : zW g l R E Q nL cells slots ws lv (.long v :: st) (pc + 1)) : zW g l R E Q nL cells slots ws lv (.int x :: st) pc :=
  fun H locs ls hP hD hS hl => lv_i2l C.x C.b d hv (k H locs ls hP hD hS hl)
theorem z_ladd (C : zC g E cc own Ts nL ret) {x y : Int64} (d : decode cc pc = .ok (.ladd, 1)) {v : Int64} (hv : x + y = v) (k : zW g l R E Q nL cells slots ws lv (.long v :: st) (pc + 1)) : zW g l R E Q nL cells slots ws lv (.long y :: .long x :: st) pc := by
  subst hv; exact fun H locs ls hP hD hS hl => lv_ladd C.x C.b d (k H locs ls hP hD hS hl)
theorem z_lmul (C : zC g E cc own Ts nL ret) {x y : Int64} (d : decode cc pc = .ok (.lmul, 1)) {v : Int64} (hv : x * y = v) (k : zW g l R E Q nL cells slots ws lv (.long v :: st) (pc + 1)) : zW g l R E Q nL cells slots ws lv (.long y :: .long x :: st) pc := by
  subst hv; exact fun H locs ls hP hD hS hl => lv_lmul C.x C.b d (k H locs ls hP hD hS hl)
theorem z_lcmp (C : zC g E cc own Ts nL ret) {x y : Int64} (d : decode cc pc = .ok (.lcmp, 1)) {v : Int32} (hv : lg_cmp x y = v) (k : zW g l R E Q nL cells slots ws lv (.int v :: st) (pc + 1)) : zW g l R E Q nL cells slots ws lv (.long y :: .long x :: st) pc := by
  subst hv; exact fun H locs ls hP hD hS hl => W.lcmp C.x C.b d (k H locs ls hP hD hS hl)
theorem z_i2d (C : zC g E cc own Ts nL ret) {x : Int32} (d : decode cc pc = .ok (.i2d, 1)) (k : zW g l R E Q nL cells slots ws lv (.double (FP.i2d x) :: st) (pc + 1)) : zW g l R E Q nL cells slots ws lv (.int x :: st) pc :=
  fun H locs ls hP hD hS hl => lv_i2d C.x C.b d (k H locs ls hP hD hS hl)
theorem z_ddiv (C : zC g E cc own Ts nL ret) {x y : UInt64} (d : decode cc pc = .ok (.ddiv, 1)) (hne : vf_n64 (FP.ddiv x y)) (k : zW g l R E Q nL cells slots ws lv (.double (FP.ddiv x y) :: st) (pc + 1)) : zW g l R E Q nL cells slots ws lv (.double y :: .double x :: st) pc :=
  fun H locs ls hP hD hS hl => lv_ddiv C.x C.b d hne (k H locs ls hP hD hS hl)
theorem z_dconst0 (C : zC g E cc own Ts nL ret) (d : decode cc pc = .ok (.dconst 0, 1)) (k : zW g l R E Q nL cells slots ws lv (.double 0 :: st) (pc + 1)) : zW g l R E Q nL cells slots ws lv st pc :=
  fun H locs ls hP hD hS hl => lv_dconst0 C.x C.b d (k H locs ls hP hD hS hl)
theorem z_dcmp (C : zC g E cc own Ts nL ret) {x y : UInt64} {op : CmpOp} (d : decode cc pc = .ok (.dcmp op, 1)) {v : Int32} (hv : Op.cmpValue (FP.dcmp x y) op = v) (k : zW g l R E Q nL cells slots ws lv (.int v :: st) (pc + 1)) : zW g l R E Q nL cells slots ws lv (.double y :: .double x :: st) pc := by
  subst hv; exact fun H locs ls hP hD hS hl => lv_dcmp C.x C.b d (k H locs ls hP hD hS hl)
-- branches, by a proposition that stands for the comparison
theorem z_if_eq (C : zC g E cc own Ts nL ret) {x : Int32} {off : Int} (tgt : Nat) (d : decode cc pc = .ok (.ifCond .eq off, 3)) (ht : (pc : Int) + off = (tgt : Int)) {P : Prop} (hP : x = 0 ↔ P) (kt : P → zW g l R E Q nL cells slots ws lv st tgt) (kf : ¬ P → zW g l R E Q nL cells slots ws lv st (pc + 3)) : zW g l R E Q nL cells slots ws lv (.int x :: st) pc :=
  fun H locs ls hP9 hD hS hl => lv_if_eq C.x C.b d ht (fun h => kt (hP.mp h) H locs ls hP9 hD hS hl) (fun h => kf (fun q => h (hP.mpr q)) H locs ls hP9 hD hS hl)
theorem z_if_ne (C : zC g E cc own Ts nL ret) {x : Int32} {off : Int} (tgt : Nat) (d : decode cc pc = .ok (.ifCond .ne off, 3)) (ht : (pc : Int) + off = (tgt : Int)) {P : Prop} (hP : x = 0 ↔ P) (kt : ¬ P → zW g l R E Q nL cells slots ws lv st tgt) (kf : P → zW g l R E Q nL cells slots ws lv st (pc + 3)) : zW g l R E Q nL cells slots ws lv (.int x :: st) pc :=
  fun H locs ls hP9 hD hS hl => lv_if_ne C.x C.b d ht (fun h => kt (fun q => h (hP.mpr q)) H locs ls hP9 hD hS hl) (fun h => kf (hP.mp h) H locs ls hP9 hD hS hl)
theorem z_if_lt (C : zC g E cc own Ts nL ret) {x : Int32} {off : Int} (tgt : Nat) (d : decode cc pc = .ok (.ifCond .lt off, 3)) (ht : (pc : Int) + off = (tgt : Int)) {P : Prop} (hP : x < 0 ↔ P) (kt : P → zW g l R E Q nL cells slots ws lv st tgt) (kf : ¬ P → zW g l R E Q nL cells slots ws lv st (pc + 3)) : zW g l R E Q nL cells slots ws lv (.int x :: st) pc :=
  fun H locs ls hP9 hD hS hl => lv_if_lt C.x C.b d ht (fun h => kt (hP.mp h) H locs ls hP9 hD hS hl) (fun h => kf (fun q => h (hP.mpr q)) H locs ls hP9 hD hS hl)
theorem z_if_ge (C : zC g E cc own Ts nL ret) {x : Int32} {off : Int} (tgt : Nat) (d : decode cc pc = .ok (.ifCond .ge off, 3)) (ht : (pc : Int) + off = (tgt : Int)) {P : Prop} (hP : 0 ≤ x ↔ P) (kt : P → zW g l R E Q nL cells slots ws lv st tgt) (kf : ¬ P → zW g l R E Q nL cells slots ws lv st (pc + 3)) : zW g l R E Q nL cells slots ws lv (.int x :: st) pc :=
  fun H locs ls hP9 hD hS hl => lv_if_ge C.x C.b d ht (fun h => kt (hP.mp h) H locs ls hP9 hD hS hl) (fun h => kf (fun q => h (hP.mpr q)) H locs ls hP9 hD hS hl)
theorem z_if_gt (C : zC g E cc own Ts nL ret) {x : Int32} {off : Int} (tgt : Nat) (d : decode cc pc = .ok (.ifCond .gt off, 3)) (ht : (pc : Int) + off = (tgt : Int)) {P : Prop} (hP : 0 < x ↔ P) (kt : P → zW g l R E Q nL cells slots ws lv st tgt) (kf : ¬ P → zW g l R E Q nL cells slots ws lv st (pc + 3)) : zW g l R E Q nL cells slots ws lv (.int x :: st) pc :=
  fun H locs ls hP9 hD hS hl => lv_if_gt C.x C.b d ht (fun h => kt (hP.mp h) H locs ls hP9 hD hS hl) (fun h => kf (fun q => h (hP.mpr q)) H locs ls hP9 hD hS hl)
theorem z_if_le (C : zC g E cc own Ts nL ret) {x : Int32} {off : Int} (tgt : Nat) (d : decode cc pc = .ok (.ifCond .le off, 3)) (ht : (pc : Int) + off = (tgt : Int)) {P : Prop} (hP : x ≤ 0 ↔ P) (kt : P → zW g l R E Q nL cells slots ws lv st tgt) (kf : ¬ P → zW g l R E Q nL cells slots ws lv st (pc + 3)) : zW g l R E Q nL cells slots ws lv (.int x :: st) pc :=
  fun H locs ls hP9 hD hS hl => lv_if_le C.x C.b d ht (fun h => kt (hP.mp h) H locs ls hP9 hD hS hl) (fun h => kf (fun q => h (hP.mpr q)) H locs ls hP9 hD hS hl)
theorem z_icmp_eq (C : zC g E cc own Ts nL ret) {x y : Int32} {off : Int} (tgt : Nat) (d : decode cc pc = .ok (.if_icmp .eq off, 3)) (ht : (pc : Int) + off = (tgt : Int)) {P : Prop} (hP : x = y ↔ P) (kt : P → zW g l R E Q nL cells slots ws lv st tgt) (kf : ¬ P → zW g l R E Q nL cells slots ws lv st (pc + 3)) : zW g l R E Q nL cells slots ws lv (.int y :: .int x :: st) pc :=
  fun H locs ls hP9 hD hS hl => lv_icmp_eq C.x C.b d ht (fun h => kt (hP.mp h) H locs ls hP9 hD hS hl) (fun h => kf (fun q => h (hP.mpr q)) H locs ls hP9 hD hS hl)
theorem z_icmp_ne (C : zC g E cc own Ts nL ret) {x y : Int32} {off : Int} (tgt : Nat) (d : decode cc pc = .ok (.if_icmp .ne off, 3)) (ht : (pc : Int) + off = (tgt : Int)) {P : Prop} (hP : x = y ↔ P) (kt : ¬ P → zW g l R E Q nL cells slots ws lv st tgt) (kf : P → zW g l R E Q nL cells slots ws lv st (pc + 3)) : zW g l R E Q nL cells slots ws lv (.int y :: .int x :: st) pc :=
  fun H locs ls hP9 hD hS hl => lv_icmp_ne C.x C.b d ht (fun h => kt (fun q => h (hP.mpr q)) H locs ls hP9 hD hS hl) (fun h => kf (hP.mp h) H locs ls hP9 hD hS hl)
theorem z_icmp_lt (C : zC g E cc own Ts nL ret) {x y : Int32} {off : Int} (tgt : Nat) (d : decode cc pc = .ok (.if_icmp .lt off, 3)) (ht : (pc : Int) + off = (tgt : Int)) {P : Prop} (hP : x < y ↔ P) (kt : P → zW g l R E Q nL cells slots ws lv st tgt) (kf : ¬ P → zW g l R E Q nL cells slots ws lv st (pc + 3)) : zW g l R E Q nL cells slots ws lv (.int y :: .int x :: st) pc :=
  fun H locs ls hP9 hD hS hl => lv_icmp_lt C.x C.b d ht (fun h => kt (hP.mp h) H locs ls hP9 hD hS hl) (fun h => kf (fun q => h (hP.mpr q)) H locs ls hP9 hD hS hl)
theorem z_icmp_ge (C : zC g E cc own Ts nL ret) {x y : Int32} {off : Int} (tgt : Nat) (d : decode cc pc = .ok (.if_icmp .ge off, 3)) (ht : (pc : Int) + off = (tgt : Int)) {P : Prop} (hP : y ≤ x ↔ P) (kt : P → zW g l R E Q nL cells slots ws lv st tgt) (kf : ¬ P → zW g l R E Q nL cells slots ws lv st (pc + 3)) : zW g l R E Q nL cells slots ws lv (.int y :: .int x :: st) pc :=
  fun H locs ls hP9 hD hS hl => lv_icmp_ge C.x C.b d ht (fun h => kt (hP.mp h) H locs ls hP9 hD hS hl) (fun h => kf (fun q => h (hP.mpr q)) H locs ls hP9 hD hS hl)
theorem z_icmp_gt (C : zC g E cc own Ts nL ret) {x y : Int32} {off : Int} (tgt : Nat) (d : decode cc pc = .ok (.if_icmp .gt off, 3)) (ht : (pc : Int) + off = (tgt : Int)) {P : Prop} (hP : y < x ↔ P) (kt : P → zW g l R E Q nL cells slots ws lv st tgt) (kf : ¬ P → zW g l R E Q nL cells slots ws lv st (pc + 3)) : zW g l R E Q nL cells slots ws lv (.int y :: .int x :: st) pc :=
  fun H locs ls hP9 hD hS hl => lv_icmp_gt C.x C.b d ht (fun h => kt (hP.mp h) H locs ls hP9 hD hS hl) (fun h => kf (fun q => h (hP.mpr q)) H locs ls hP9 hD hS hl)
theorem z_icmp_le (C : zC g E cc own Ts nL ret) {x y : Int32} {off : Int} (tgt : Nat) (d : decode cc pc = .ok (.if_icmp .le off, 3)) (ht : (pc : Int) + off = (tgt : Int)) {P : Prop} (hP : x ≤ y ↔ P) (kt : P → zW g l R E Q nL cells slots ws lv st tgt) (kf : ¬ P → zW g l R E Q nL cells slots ws lv st (pc + 3)) : zW g l R E Q nL cells slots ws lv (.int y :: .int x :: st) pc :=
  fun H locs ls hP9 hD hS hl => lv_icmp_le C.x C.b d ht (fun h => kt (hP.mp h) H locs ls hP9 hD hS hl) (fun h => kf (fun q => h (hP.mpr q)) H locs ls hP9 hD hS hl)
theorem z_tabIn (C : zC g E cc own Ts nL ret) {dflt lo hi : Int} {offs : Array Int} {len : Nat} {x : Int32} {off : Int} (tgt : Nat) (d : decode cc pc = .ok (.tableswitch dflt lo hi offs, len)) (h1 : ¬ x.toInt < lo) (h2 : ¬ hi < x.toInt) (ho : offs[(x.toInt - lo).toNat]? = some off) (ht : (pc : Int) + off = (tgt : Int)) (k : zW g l R E Q nL cells slots ws lv st tgt) : zW g l R E Q nL cells slots ws lv (.int x :: st) pc :=
  fun H locs ls hP9 hD hS hl => lv_tableIn C.x C.b d h1 h2 ho ht (k H locs ls hP9 hD hS hl)
theorem z_tabOut (C : zC g E cc own Ts nL ret) {dflt lo hi : Int} {offs : Array Int} {len : Nat} {x : Int32} (tgt : Nat) (d : decode cc pc = .ok (.tableswitch dflt lo hi offs, len)) (h : x.toInt < lo ∨ hi < x.toInt) (ht : (pc : Int) + dflt = (tgt : Int)) (k : zW g l R E Q nL cells slots ws lv st tgt) : zW g l R E Q nL cells slots ws lv (.int x :: st) pc :=
  fun H locs ls hP9 hD hS hl => lv_tableOut C.x C.b d h ht (k H locs ls hP9 hD hS hl)
theorem z_lookup (C : zC g E cc own Ts nL ret) {dflt : Int} {ps : Array (Int × Int)} {len : Nat} {x : Int32} {off : Int} (tgt : Nat) (d : decode cc pc = .ok (.lookupswitch dflt ps, len)) (hp : (ps.toList.zip (ps.toList.drop 1)).all (fun (a, next) => a.1 < next.1) = true) (ho : Op.lookupswitch.offset ps.toList dflt x.toInt = off) (ht : (pc : Int) + off = (tgt : Int)) (k : zW g l R E Q nL cells slots ws lv st tgt) : zW g l R E Q nL cells slots ws lv (.int x :: st) pc :=
  fun H locs ls hP9 hD hS hl => lv_lookup C.x C.b d hp ho ht (k H locs ls hP9 hD hS hl)
-- fields
theorem z_get (C : zC g E cc own Ts nL ret) {Cn : String} {T : u_T} {N ci index : Nat} {a : Nat} {fs : List Value} {v : Value} (hin : ∀ w ∈ u_ws Cn T N, w ∈ Ts) (q0 : Nat) (he : ws[q0]? = some (a, .inr (ci, fs))) (hc : vwCl[ci]? = some (Cn, T, N)) (k : Nat) (hk : k < N) (hlink : (Cond.fieldLink own index (T k).1 (T k).2.1 (T k).2.2.1).before (za E) (zs E) = true) (hv : fs[k]? = some v) (d : decode cc pc = .ok (.getfield index, 3))
    (kk : zW g l R E Q nL cells slots ws lv (v :: st) (pc + 3)) : zW g l R E Q nL cells slots ws lv (.ref a :: st) pc :=
  fun H locs ls hP hD hS hl => va_get C.x C.b C.ts hin C.ow C.K.1 hP q0 he hc k hk hlink (fun _ h9 => h9) hv d (kk H locs ls hP hD hS hl)
theorem z_getN (C : zC g E cc own Ts nL ret) {Cn host : String} {T : u_T} {N ci index : Nat} {a : Nat} {fs : List Value} {v : Value} (hin : ∀ w ∈ u_ws Cn T N, w ∈ Ts) (q0 : Nat) (he : ws[q0]? = some (a, .inr (ci, fs))) (hc : vwCl[ci]? = some (Cn, T, N)) (k : Nat) (hk : k < N) (j : Nat) (hlink : zNW[j]? = some (Cond.fieldLinkNest own index (T k).1 (T k).2.1 (T k).2.2.1 host)) (hv : fs[k]? = some v) (d : decode cc pc = .ok (.getfield index, 3))
    (kk : zW g l R E Q nL cells slots ws lv (v :: st) (pc + 3)) : zW g l R E Q nL cells slots ws lv (.ref a :: st) pc :=
  fun H locs ls hP hD hS hl => va_getN C.x C.b C.ts hin C.ow C.K.1 hP q0 he hc k hk (va_Nw.use rfl (C.K.2.1 _ (List.mem_of_getElem? hlink))) (fun _ h9 => h9) hv d (kk H locs ls hP hD hS hl)
theorem z_put (C : zC g E cc own Ts nL ret) {Cn : String} {T : u_T} {N ci index : Nat} {a : Nat} {fs : List Value} {v : Value} {ty0 : Nat → FieldType} (hin : ∀ w ∈ u_ws Cn T N, w ∈ Ts) (hty : ∀ k, k < N → parseFieldDescriptor (T k).2.2.1 = some (ty0 k)) (hnm : ∀ a, a < N → ∀ b, b < N → a ≠ b → (T a).2.1 ≠ (T b).2.1) (q0 : Nat) (he : ws[q0]? = some (a, .inr (ci, fs))) (hc : vwCl[ci]? = some (Cn, T, N)) (k : Nat) (hk : k < N) (hlink : (Cond.fieldLink own index (T k).1 (T k).2.1 (T k).2.2.1).before (za E) (zs E) = true) (hfin : (T k).2.2.2 = false) {ty : FieldType} (hd : parseFieldDescriptor (T k).2.2.1 = some ty) (hn : narrow ty v = v) (hfit : fits ty v = true) (hl9 : k < fs.length) (d : decode cc pc = .ok (.putfield index, 3)) {w' : va_W} (hw : ws.set q0 (a, .inr (ci, fs.set k v)) = w')
    (kk : zW g l R E Q nL cells slots w' lv st (pc + 3)) : zW g l R E Q nL cells slots ws lv (v :: .ref a :: st) pc := by
  subst hw
  exact fun H locs ls hP hD hS hl => va_put C.x C.b C.ts hin ty0 hty hnm C.ow C.K.1 hP hD hS q0 he hc k hk hlink (fun _ h9 => h9) hfin hd hn hfit hl9 d (fun H1 locs1 h1 h2 h3 => kk H1 locs1 ls h1 h2 h3 hl)
theorem z_putF (C : zC g E cc own Ts nL ret) {Cn : String} {T : u_T} {N ci index : Nat} {a : Nat} {fs : List Value} {v : Value} {ty0 : Nat → FieldType} (hin : ∀ w ∈ u_ws Cn T N, w ∈ Ts) (hty : ∀ k, k < N → parseFieldDescriptor (T k).2.2.1 = some (ty0 k)) (hnm : ∀ a, a < N → ∀ b, b < N → a ≠ b → (T a).2.1 ≠ (T b).2.1) (q0 : Nat) (he : ws[q0]? = some (a, .inr (ci, fs))) (hc : vwCl[ci]? = some (Cn, T, N)) (k : Nat) (hk : k < N) (hlink : (Cond.fieldLink own index (T k).1 (T k).2.1 (T k).2.2.1).before (za E) (zs E) = true) (hfin : (T k).2.2.2 = true) (hi : (zmt E).name = "<init>") (hdc : (T k).1 = own) {ty : FieldType} (hd : parseFieldDescriptor (T k).2.2.1 = some ty) (hn : narrow ty v = v) (hfit : fits ty v = true) (hl9 : k < fs.length) (d : decode cc pc = .ok (.putfield index, 3)) {w' : va_W} (hw : ws.set q0 (a, .inr (ci, fs.set k v)) = w')
    (kk : zW g l R E Q nL cells slots w' lv st (pc + 3)) : zW g l R E Q nL cells slots ws lv (v :: .ref a :: st) pc := by
  subst hw
  exact fun H locs ls hP hD hS hl => va_putF C.x C.b C.ts hin ty0 hty hnm C.ow C.K.1 hP hD hS q0 he hc k hk hlink (fun _ h9 => h9) hfin hi hdc hd hn hfit hl9 d (fun H1 locs1 h1 h2 h3 => kk H1 locs1 ls h1 h2 h3 hl)
-- arrays
theorem z_iald (C : zC g E cc own Ts nL ret) {a n : Nat} {f : Nat → Int32} (q0 : Nat) (ha : ws[q0]? = some (a, .inl (zI g, n, .inl f))) {i : Int32} (hin : vp_in i n) (d : decode cc pc = .ok (.iaload, 1)) {v : Int32} (hv : f i.toNatClampNeg = v) (kk : zW g l R E Q nL cells slots ws lv (.int v :: st) (pc + 1)) : zW g l R E Q nL cells slots ws lv (.int i :: .ref a :: st) pc := by
  subst hv
  exact fun H locs ls hP hD hS hl => va_iald C.x C.b C.K.1 hP q0 0 ha rfl hin d (kk H locs ls hP hD hS hl)
theorem z_ialdN (C : zC g E cc own Ts nL ret) {a n j : Nat} {f : Nat → Int32} (q0 : Nat) (ha : ws[q0]? = some (a, .inl (zI g, n, .inl f))) (hj : j < n) (hn : n < 2 ^ 31) (d : decode cc pc = .ok (.iaload, 1)) {v : Int32} (hv : f j = v) (kk : zW g l R E Q nL cells slots ws lv (.int v :: st) (pc + 1)) : zW g l R E Q nL cells slots ws lv (.int (nI j) :: .ref a :: st) pc :=
  z_iald C q0 ha (vp_in_nI hj hn) d (by rw [nI_clamp (by omega)]; exact hv) kk
theorem z_zaldN (C : zC g E cc own Ts nL ret) {a n j : Nat} {f : Nat → Int32} (q0 : Nat) (ha : ws[q0]? = some (a, .inl (zZ g, n, .inl f))) (hj : j < n) (hn : n < 2 ^ 31) (d : decode cc pc = .ok (.baload, 1)) {v : Int32} (hv : f j = v) (kk : zW g l R E Q nL cells slots ws lv (.int v :: st) (pc + 1)) : zW g l R E Q nL cells slots ws lv (.int (nI j) :: .ref a :: st) pc := by
  subst hv
  have e : (nI j).toNatClampNeg = j := nI_clamp (by omega)
  have k9 : zW g l R E Q nL cells slots ws lv (.int (f (nI j).toNatClampNeg) :: st) (pc + 1) := by rw [e]; exact kk
  exact fun H locs ls hP hD hS hl => va_zald C.x C.b C.K.1 hP q0 1 ha rfl (vp_in_nI hj hn) d (k9 H locs ls hP hD hS hl)
theorem z_iastN (C : zC g E cc own Ts nL ret) {a n j : Nat} {f : Nat → Int32} {x : Int32} (q0 : Nat) (ha : ws[q0]? = some (a, .inl (zI g, n, .inl f))) (hj : j < n) (hn : n < 2 ^ 31) (d : decode cc pc = .ok (.iastore, 1)) {w' : va_W} (hw : ws.set q0 (a, .inl (zI g, n, .inl (upd f j x))) = w') (kk : zW g l R E Q nL cells slots w' lv st (pc + 1)) : zW g l R E Q nL cells slots ws lv (.int x :: .int (nI j) :: .ref a :: st) pc := by
  have e : (nI j).toNatClampNeg = j := nI_clamp (by omega)
  have k9 : zW g l R E Q nL cells slots (ws.set q0 (a, .inl (zI g, n, .inl (upd f (nI j).toNatClampNeg x)))) lv st (pc + 1) := by rw [e, hw]; exact kk
  exact fun H locs ls hP hD hS hl => va_iast C.x C.b C.K.1 hP hD hS q0 0 ha rfl (vp_in_nI hj hn) d (fun H1 locs1 h1 h2 h3 => k9 H1 locs1 ls h1 h2 h3 hl)
theorem z_zastN (C : zC g E cc own Ts nL ret) {a n j : Nat} {f : Nat → Int32} {x y : Int32} (q0 : Nat) (ha : ws[q0]? = some (a, .inl (zZ g, n, .inl f))) (hj : j < n) (hn : n < 2 ^ 31) (hy : vp_nar .boolean x = y) (d : decode cc pc = .ok (.bastore, 1)) {w' : va_W} (hw : ws.set q0 (a, .inl (zZ g, n, .inl (upd f j y))) = w') (kk : zW g l R E Q nL cells slots w' lv st (pc + 1)) : zW g l R E Q nL cells slots ws lv (.int x :: .int (nI j) :: .ref a :: st) pc := by
  have e : (nI j).toNatClampNeg = j := nI_clamp (by omega)
  have k9 : zW g l R E Q nL cells slots (ws.set q0 (a, .inl (zZ g, n, .inl (upd f (nI j).toNatClampNeg (vp_nar .boolean x))))) lv st (pc + 1) := by rw [e, hy, hw]; exact kk
  exact fun H locs ls hP hD hS hl => va_zast C.x C.b C.K.1 hP hD hS q0 1 ha rfl (vp_in_nI hj hn) d (fun H1 locs1 h1 h2 h3 => k9 H1 locs1 ls h1 h2 h3 hl)
theorem z_alenI (C : zC g E cc own Ts nL ret) {a n : Nat} {f : Nat → Int32} (q0 : Nat) (ha : ws[q0]? = some (a, .inl (zI g, n, .inl f))) (d : decode cc pc = .ok (.arraylength, 1)) (kk : zW g l R E Q nL cells slots ws lv (.int (nI n) :: st) (pc + 1)) : zW g l R E Q nL cells slots ws lv (.ref a :: st) pc :=
  fun H locs ls hP hD hS hl => va_alen C.x C.b C.K.1 hP q0 0 ha (ty := .int) rfl rfl d (kk H locs ls hP hD hS hl)
end ZR2
-- contracts
/-- the end of a method: what it answers, and its world -/
def zQ (g : zG) (post : Option Value → va_W → Prop) (A : Nat → Prop) : Array Value → State → Outcome → State → Prop := fun _ st oc t => (∃ (v : Option Value) (w' : va_W), oc = .returned v ∧ post v w' ∧ va_P g.1 vwCl w' t.heap ∧ va_D A w') ∧ va_F A st t
def zPc (g : zG) (As : List Value) (w : va_W) (sz : Nat) : Array Value → State → Prop := va_Pc As (fun U => U.heap.size = sz ∧ va_P g.1 vwCl w U.heap ∧ zK g U ∧ va_D (fun _ => True) w)
/-- a method that returns -/
def zM (g : zG) (l : Launch) (y : MethodName) (ws : List Cond) (rm : Room) (As : List Value) (w : va_W) (post : Option Value → va_W → Prop) (mc ms : Nat) : Prop :=
  ∀ sz : Nat, Met l y ws rm (zPc g As w sz) (zQ g post (va_A w sz)) mc ms (va_A w sz)
theorem zPc.blind {g : zG} {As : List Value} {w : va_W} {sz : Nat} : FrameBlind (zPc g As w sz) := fun a U f mk q => by
  obtain ⟨q0, q1, qP, qK, qD⟩ := q
  exact ⟨q0, q1, qP, qK.call, qD⟩
theorem zM.mono {g : zG} {l : Launch} {y : MethodName} {ws : List Cond} {rm : Room} {As : List Value} {w : va_W} {p1 p2 : Option Value → va_W → Prop} {mc ms : Nat} (h : zM g l y ws rm As w p1 mc ms) (hp : ∀ v w', p1 v w' → p2 v w') : zM g l y ws rm As w p2 mc ms := by
  intro sz p e ha hc hk s m args below hf happ hP hT
  obtain ⟨t, o, h1, h2, h3, ⟨⟨⟨v, w', e1, e2, e3⟩, hF⟩, L⟩⟩ := h sz p e ha hc hk s m args below hf happ hP hT
  exact ⟨t, o, h1, h2, h3, ⟨⟨v, w', e1, hp _ _ e2, e3⟩, hF⟩, L⟩
section ZR3
variable {g : zG} {l : Launch} {R : Room} {E : zEnv} {Q : State → Prop} {nL cells slots : Nat} {ws ws' : va_W} {lv lv' : List (Nat × Value)} {st rest : List Value} {pc : Nat} {cc : ByteArray} {own : String} {Ts : List Cond} {ret : Option FieldType}
variable {post : Option Value → va_W → Prop} {mc ms : Nat}
abbrev zMQ (g : zG) (E : zEnv) (post : Option Value → va_W → Prop) (mc ms : Nat) : State → Prop := MQ (zbl E) (zQ g post (zA E)) (za E) (zs E) mc ms (zA E)
theorem z_ret_q {H : Heap} {locs : List Loc} {v : Option Value} (hP : va_P g.1 vwCl ws H) (hD : va_D (zA E) ws) (hS : va_S (zA E) (zs E).heap H locs) (hp : post v ws) : ∀ t : State, t.heap = H → (zs E).WarmedH t.vm → zQ g post (zA E) (za E) (zs E) (.returned v) t :=
  fun t ht _ => ⟨⟨v, ws, rfl, hp, by rw [ht]; exact hP, hD⟩, hS.F ht⟩
theorem z_iret (C : zC g E cc own Ts nL (some .int)) {v : Int32} (d : decode cc pc = .ok (.ireturn, 1)) (hp : post (some (.int v)) ws) : zW g l R E (zMQ g E post cells slots) nL cells slots ws lv [.int v] pc :=
  fun H locs ls hP hD hS hl => W.iret C.x C.b C.r (z_ret_q hP hD hS hp) hS.2.2 d C.lk
theorem z_zret (C : zC g E cc own Ts nL (some .boolean)) {v : Int32} (hn : narrow .boolean (.int v) = .int v) (d : decode cc pc = .ok (.ireturn, 1)) (hp : post (some (.int v)) ws) : zW g l R E (zMQ g E post cells slots) nL cells slots ws lv [.int v] pc :=
  fun H locs ls hP hD hS hl => W.zret C.x C.b C.r hn (z_ret_q hP hD hS hp) hS.2.2 d C.lk
theorem z_lret (C : zC g E cc own Ts nL (some .long)) {v : Int64} (d : decode cc pc = .ok (.lreturn, 1)) (hp : post (some (.long v)) ws) : zW g l R E (zMQ g E post cells slots) nL cells slots ws lv [.long v] pc :=
  fun H locs ls hP hD hS hl => W.lret C.x C.b C.r (z_ret_q hP hD hS hp) hS.2.2 d C.lk
theorem z_dret (C : zC g E cc own Ts nL (some .double)) {v : UInt64} (d : decode cc pc = .ok (.dreturn, 1)) (hp : post (some (.double v)) ws) : zW g l R E (zMQ g E post cells slots) nL cells slots ws lv [.double v] pc :=
  fun H locs ls hP hD hS hl => W.dret C.x C.b C.r (z_ret_q hP hD hS hp) hS.2.2 d C.lk
theorem z_vret (C : zC g E cc own Ts nL none) (d : decode cc pc = .ok (.return_, 1)) (hp : post none ws) : zW g l R E (zMQ g E post cells slots) nL cells slots ws lv [] pc :=
  fun H locs ls hP hD hS hl => W.vret C.x C.b C.r (z_ret_q hP hD hS hp) hS.2.2 d C.lk
theorem zM.of {y : MethodName} {rm : Room} {As : List Value} {w : va_W} {Ts' : List Cond} (hy : plainName y.cls = true) (hw : Ts = .code y cc nL ret :: Ts') (hn : (lg_sl As).length ≤ nL) (hlv : lv_args 0 As = lv)
    (body : ∀ E : zEnv, zC g E cc y.cls Ts nL ret → (y.name = "<init>" → (zmt E).name = "<init>") → zW g l rm E (zMQ g E post mc ms) nL 0 0 w lv [] 0) : zM g l y Ts rm As w post mc ms := by
  intro sz
  refine Met.ofW hy hw ?_
  intro p e s m args below meth c s₁ B hml hv
  obtain ⟨rfl, hsz, hP, hK, hD0⟩ := hv
  have hts := atoms_spec (ws := Ts) B.pre
  have hD := hD0.self (sz := s.heap.size)
  subst hsz
  have h := body (p, e, s, m, As.toArray, below, meth, c, va_A w s.heap.size) ⟨B.exec, B.bytes, hml, findClass_of_methodNamed B.named, hts, hK, fun q h => Or.inr h, B.notSynchronized, B.returns⟩ (fun h9 => by rw [← h9]; exact (name_of_methodNamed B.named B.method).1)
  have hl := lv_entry As (n := nL) hn
  rw [hlv] at hl
  rw [lg_entry_eq]
  exact h s.heap [] _ hP hD va_S.rf hl
/-- a call over the whole world, by what it runs to -/
theorem z_go {a : Array Value} {st0 : List Value} (hr : ∀ (H : Heap) (locs : List Loc) (ls : Array Slot), va_P g.1 vwCl ws H → va_D (zA E) ws → va_S (zA E) (zs E).heap H locs → lv_has ls nL lv → va_Run (zp E) l (ze E) R (zs E) (zm E) (za E) (zbl E) (zmt E) (zcd E) H locs cells slots mc ms (F0 (zm E) pc ls st0) rest (zQ g post (va_A ws H.size) a) (va_A ws H.size)) (hA : ∀ q, (zs E).heap.size ≤ q → zA E q)
    (kk : ∀ v w', post v w' → zW g l R E Q nL (cells + mc) (slots + ms) w' lv (v.toList ++ rest) (pc + 3)) : zW g l R E Q nL cells slots ws lv st0 pc := by
  intro H locs ls hP hD hS hl T hT X
  have hF : ∀ q, va_A ws H.size q → zA E q := by
    intro q h
    rcases h with ⟨k, e, h⟩ | h
    · exact hD.2 k (q, e) h
    · exact hA q (Nat.le_trans hS.1 h)
  obtain ⟨v, st₀, t, T', L, h0, X', hL, e1, e2, ⟨⟨v2, w', hv, hp, hP', hD'⟩, hz, hk⟩, st9⟩ := hr H locs ls hP hD hS hl T hT X
  cases hv
  rw [h0] at hz hk
  obtain ⟨t2, a1, b1⟩ := kk v w' hp T'.heap (locs ++ L) ls (by rw [e1]; exact hP') (hD'.weaken fun _ q _ h => hF q.1 h)
    ⟨Nat.le_trans hS.1 (by rw [e1]; exact hz), fun q h1 h2 => by rw [e1, hk q (Nat.lt_of_lt_of_le h1 hS.1) (fun z => h2 (hF q z))]; exact hS.2.1 q h1 h2, fun q hq => by
      rcases List.mem_append.mp hq with h | h
      · exact hS.2.2 q h
      · exact hF _ (hL q h)⟩ hl T' rfl X'
  exact ⟨t2, st9 t2 a1, b1⟩
theorem z_pcS {w : va_W} {H : Heap} {As : List Value} (hK : zK g (zs E)) (hP : va_P g.1 vwCl w H) (hD : va_D (zA E) w) : PreS (zs E) H (zPc g As w H.size) As :=
  ⟨zPc.blind, fun U hU hW => ⟨rfl, by rw [hU], by rw [hU]; exact hP, hK.warm hW, hD.weaken fun _ _ _ _ => trivial⟩⟩
theorem z_pcV {w : va_W} {H : Heap} {As : List Value} {q0 ci b : Nat} {fs : List Value} {Cn : String} {T : u_T} {N : Nat} (hK : zK g (zs E)) (hP : va_P g.1 vwCl w H) (hD : va_D (zA E) w) (he : w[q0]? = some (b, .inr (ci, fs))) (hc : vwCl[ci]? = some (Cn, T, N)) : PreV (zs E) H Cn b (zPc g (.ref b :: As) w H.size) As :=
  ⟨zPc.blind, va_recv hK.1 hP hc he, fun U hU hW => ⟨rfl, by rw [hU], by rw [hU]; exact hP, hK.warm hW, hD.weaken fun _ _ _ _ => trivial⟩⟩
/-- a method of this object's class, or of another's that is called as its own -/
theorem z_callV (C : zC g E cc own Ts nL ret) {y : MethodName} {bytes : ByteArray} {maxL n index : Nat} {rt : Option FieldType} {wy : List Cond} {rm : Room} {As : List Value} {b q0 ci N : Nat} {fs : List Value} {Cn : String} {T : u_T}
    (hM : zM g l y wy rm (.ref b :: As) ws post mc ms) (cw : CallW R (zs E) (za E) own Cn index y bytes maxL rt wy rm mc ms n) (he : ws[q0]? = some (b, .inr (ci, fs))) (hc : vwCl[ci]? = some (Cn, T, N)) (hn : As.length = n) (hst : st = As.reverse ++ .ref b :: rest) (hr : (rest.map fun v => v.category).sum ≤ 8) (d : decode cc pc = .ok (.invokevirtual index, 3)) (hf : cells + mc ≤ R.cells ∧ slots + ms ≤ R.slots)
    (kk : ∀ v w', post v w' → zW g l R E Q nL (cells + mc) (slots + ms) w' lv (v.toList ++ rest) (pc + 3)) : zW g l R E Q nL cells slots ws lv st pc :=
  z_go (fun H locs ls hP hD hS hl => va_runV C.fx (hM H.size) cw (z_pcV C.K hP hD he hc) rfl hn hl.1 hst (lv_room hr) d hf) C.A kk
theorem z_callVN (C : zC g E cc own Ts nL ret) {y : MethodName} {bytes : ByteArray} {maxL n index : Nat} {rt : Option FieldType} {wy : List Cond} {rm : Room} {As : List Value} {b q0 ci N : Nat} {fs : List Value} {Cn host : String} {T : u_T}
    (hM : zM g l y wy rm (.ref b :: As) ws post mc ms) (cw : va_CN R (zs E) (za E) own index y host bytes maxL rt wy rm mc ms n ∧ (Cond.instanceMethod y).before (za E) (zs E) = true ∧ (Cond.selects Cn y y).before (za E) (zs E) = true) (he : ws[q0]? = some (b, .inr (ci, fs))) (hc : vwCl[ci]? = some (Cn, T, N)) (hn : As.length = n) (hst : st = As.reverse ++ .ref b :: rest) (hr : (rest.map fun v => v.category).sum ≤ 8) (d : decode cc pc = .ok (.invokevirtual index, 3)) (hf : cells + mc ≤ R.cells ∧ slots + ms ≤ R.slots)
    (kk : ∀ v w', post v w' → zW g l R E Q nL (cells + mc) (slots + ms) w' lv (v.toList ++ rest) (pc + 3)) : zW g l R E Q nL cells slots ws lv st pc :=
  z_go (fun H locs ls hP hD hS hl => va_runVN C.fx (hM H.size) cw (z_pcV C.K hP hD he hc) rfl hn hl.1 hst (lv_room hr) d hf) C.A kk
theorem z_callS (C : zC g E cc own Ts nL ret) {y : MethodName} {bytes : ByteArray} {maxL n index : Nat} {rt : Option FieldType} {wy : List Cond} {rm : Room} {As : List Value}
    (hM : zM g l y wy rm As ws post mc ms) (cw : CallB R (zs E) (za E) own index y bytes maxL rt wy rm mc ms n ∧ (Cond.static y).before (za E) (zs E) = true) (hn : As.length = n) (hst : st = As.reverse ++ rest) (hr : (rest.map fun v => v.category).sum ≤ 8) (d : decode cc pc = .ok (.invokestatic index, 3)) (hf : cells + mc ≤ R.cells ∧ slots + ms ≤ R.slots)
    (kk : ∀ v w', post v w' → zW g l R E Q nL (cells + mc) (slots + ms) w' lv (v.toList ++ rest) (pc + 3)) : zW g l R E Q nL cells slots ws lv st pc :=
  z_go (fun H locs ls hP hD hS hl => va_runS C.fx (hM H.size) cw (z_pcS C.K hP hD) rfl hn hl.1 hst (lv_room hr) d hf) C.A kk
theorem z_callI (C : zC g E cc own Ts nL ret) {y : MethodName} {bytes : ByteArray} {maxL n index : Nat} {wy : List Cond} {rm : Room} {As : List Value} {b : Nat}
    (hM : zM g l y wy rm (.ref b :: As) ws post mc ms) (cw : CallB R (zs E) (za E) own index y bytes maxL none wy rm mc ms n ∧ y.name = "<init>" ∧ (Cond.instanceMethod y).before (za E) (zs E) = true) (hn : As.length = n) (hst : st = As.reverse ++ .ref b :: rest) (hr : (rest.map fun v => v.category).sum ≤ 8) (d : decode cc pc = .ok (.invokespecial index, 3)) (hf : cells + mc ≤ R.cells ∧ slots + ms ≤ R.slots)
    (kk : ∀ v w', post v w' → zW g l R E Q nL (cells + mc) (slots + ms) w' lv (v.toList ++ rest) (pc + 3)) : zW g l R E Q nL cells slots ws lv st pc :=
  z_go (fun H locs ls hP hD hS hl => va_runI C.fx (hM H.size) cw (z_pcS C.K hP hD) rfl hn hl.1 hst (lv_room hr) d hf) C.A kk
theorem z_objInit (C : zC g E cc own Ts nL ret) {a idx : Nat} (hlink : (Cond.methodLink own idx Lib.objectInit).before (za E) (zs E) = true) (hinst : (Cond.instanceMethod Lib.objectInit).before (za E) (zs E) = true) (hcode : (Cond.code Lib.objectInit ⟨#[0xb1]⟩ 1 none).before (za E) (zs E) = true) (d : decode cc pc = .ok (.invokespecial idx, 3)) (hf : 1 ≤ R.frames) (hlo : (rest.map fun v => v.category).sum + 12 ≤ R.locals)
    (kk : zW g l R E Q nL cells slots ws lv rest (pc + 3)) : zW g l R E Q nL cells slots ws lv (.ref a :: rest) pc :=
  fun H locs ls hP hD hS hl => W.objInit C.x C.b C.ow hlink hinst hcode rfl (hl.1.trans C.2.2.1.symm) rfl d hf (by show 2 * 0 + _ + 12 ≤ _; omega) (kk H locs ls hP hD hS hl)
end ZR3
