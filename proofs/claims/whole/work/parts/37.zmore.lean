section ZR5
variable {g : zG} {l : Launch} {R : Room} {E : zEnv} {Q : State → Prop} {nL cells slots : Nat} {ws ws' : va_W} {lv lv' : List (Nat × Value)} {st rest : List Value} {pc : Nat} {cc : ByteArray} {own : String} {Ts : List Cond} {ret : Option FieldType}
theorem z_mmax (C : zC g E cc own Ts nL ret) {index : Nat} {x y : Int32} (hlink : (Cond.methodLink own index Lib.Math.max.name).before (za E) (zs E) = true) (hstat : (Cond.static Lib.Math.max.name).before (za E) (zs E) = true) (hini : (Cond.initialized "java/lang/Math").before (za E) (zs E) = true) (hcode : (Cond.code Lib.Math.max.name Lib.Math.max.code 2 (some .int)).before (za E) (zs E) = true)
    (hframes : 1 ≤ R.frames) (hlocals : (rest.map fun v => v.category).sum + 13 ≤ R.locals) (hc : cells ≤ R.cells) (hs : slots ≤ R.slots) (d : decode cc pc = .ok (.invokestatic index, 3)) {v : Int32} (hv : (if x < y then y else x) = v)
    (kk : zW g l R E Q nL cells slots ws lv (.int v :: rest) (pc + 3)) : zW g l R E Q nL cells slots ws lv (.int y :: .int x :: rest) pc := by
  subst hv
  exact fun H locs ls hP hD hS hl => va_mmax C.x C.b (C.2.2.1.trans hl.1.symm) C.ow hlink hstat hini hcode hframes hlocals hc hs d (kk H locs ls hP hD hS hl)
end ZR5
theorem zmax_NN {x y : Nat} (hx : x < 2147483648) (hy : y < 2147483648) : (if nI x < nI y then nI y else nI x) = nI (max x y) := by
  by_cases h : x < y
  · rw [if_pos ((zlt_NN hx hy).mpr h), Nat.max_eq_right (by omega)]
  · rw [if_neg (fun q => h ((zlt_NN hx hy).mp q)), Nat.max_eq_left (by omega)]
def zPle (x : Int64) (P : va_W → Prop) : Option Value → va_W → Prop := fun v w' => v = some (.long x) ∧ P w'
def zPde (x : UInt64) (P : va_W → Prop) : Option Value → va_W → Prop := fun v w' => v = some (.double x) ∧ P w'
section ZR6
variable {g : zG} {l : Launch} {R : Room} {E : zEnv} {nL cells slots : Nat} {ws : va_W} {lv : List (Nat × Value)} {pc : Nat} {cc : ByteArray} {own : String} {Ts : List Cond} {P : va_W → Prop}
theorem z_lretE (C : zC g E cc own Ts nL (some .long)) {v x : Int64} (d : decode cc pc = .ok (.lreturn, 1)) (hx : v = x) (hp : P ws) : zW g l R E (zMQ g E (zPle x P) cells slots) nL cells slots ws lv [.long v] pc := z_lret C d ⟨by rw [hx], hp⟩
theorem z_dretE (C : zC g E cc own Ts nL (some .double)) {v x : UInt64} (d : decode cc pc = .ok (.dreturn, 1)) (hx : v = x) (hp : P ws) : zW g l R E (zMQ g E (zPde x P) cells slots) nL cells slots ws lv [.double v] pc := z_dret C d ⟨by rw [hx], hp⟩
end ZR6
theorem aLand1_or {a : zS} (ha : zOk a) (f : Nat) : (aWf a f = -1 ∧ aLand a f 1 = -1) ∨ (¬ aWf a f = -1 ∧ 0 ≤ aLand a f 1 ∧ aLand a f 1 < 5) := by
  have h9 : aLand a f 1 = if aWf a f = -1 then -1 else (zOw a (aWf a f).toNat : Int) := rfl
  rw [h9]
  rcases zFst_or (fun b => (zFw a 0).2.testBit b && (zBu a b).testBit f) (zNb a) 0 with e | ⟨c, h1, e, -⟩
  · have e : aWf a f = -1 := e
    rw [e]
    exact Or.inl ⟨rfl, rfl⟩
  · have e : aWf a f = (c : Int) := e
    rw [e, if_neg (by omega)]
    have h2 := ha.ow (b := c) (by omega)
    have h3 := ha.2.1
    refine Or.inr ⟨by omega, by omega, ?_⟩
    show ((zOw a c : Nat) : Int) < 5
    omega
