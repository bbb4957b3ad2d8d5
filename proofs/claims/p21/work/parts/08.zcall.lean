/-! what a method answers, said plainly, and how a call goes on -/
def zPi (x : Int32) (w : va_W) : Option Value → va_W → Prop := fun v w' => v = some (.int x) ∧ w' = w
def zPl (x : Int64) (w : va_W) : Option Value → va_W → Prop := fun v w' => v = some (.long x) ∧ w' = w
def zPd (x : UInt64) (w : va_W) : Option Value → va_W → Prop := fun v w' => v = some (.double x) ∧ w' = w
def zPv (w : va_W) : Option Value → va_W → Prop := fun v w' => v = none ∧ w' = w
section ZR4
variable {g : zG} {l : Launch} {R : Room} {E : zEnv} {Q : State → Prop} {nL cells slots : Nat} {ws w2 : va_W} {lv lv' : List (Nat × Value)} {st rest : List Value} {pc : Nat} {cc : ByteArray} {own : String} {Ts : List Cond} {ret : Option FieldType}
theorem z_i {x : Int32} (kk : zW g l R E Q nL cells slots w2 lv (.int x :: rest) pc) : ∀ v w', zPi x w2 v w' → zW g l R E Q nL (cells + 0) (slots + 0) w' lv (v.toList ++ rest) pc := by
  rintro _ _ ⟨rfl, rfl⟩; exact kk
theorem z_l {x : Int64} (kk : zW g l R E Q nL cells slots w2 lv (.long x :: rest) pc) : ∀ v w', zPl x w2 v w' → zW g l R E Q nL (cells + 0) (slots + 0) w' lv (v.toList ++ rest) pc := by
  rintro _ _ ⟨rfl, rfl⟩; exact kk
theorem z_d {x : UInt64} (kk : zW g l R E Q nL cells slots w2 lv (.double x :: rest) pc) : ∀ v w', zPd x w2 v w' → zW g l R E Q nL (cells + 0) (slots + 0) w' lv (v.toList ++ rest) pc := by
  rintro _ _ ⟨rfl, rfl⟩; exact kk
theorem z_v (kk : zW g l R E Q nL cells slots w2 lv rest pc) : ∀ v w', zPv w2 v w' → zW g l R E Q nL (cells + 0) (slots + 0) w' lv (v.toList ++ rest) pc := by
  rintro _ _ ⟨rfl, rfl⟩; exact kk
theorem z_iretP (C : zC g E cc own Ts nL (some .int)) {v x : Int32} (d : decode cc pc = .ok (.ireturn, 1)) (hx : v = x) (hw : ws = w2) : zW g l R E (zMQ g E (zPi x w2) cells slots) nL cells slots ws lv [.int v] pc :=
  z_iret C d ⟨by rw [hx], hw⟩
theorem z_zretP (C : zC g E cc own Ts nL (some .boolean)) {v : Int32} {b : Bool} (d : decode cc pc = .ok (.ireturn, 1)) (hx : v = bI b) (hw : ws = w2) : zW g l R E (zMQ g E (zPi (bI b) w2) cells slots) nL cells slots ws lv [.int v] pc := by
  subst hx
  exact z_zret C (zbI_nar b) d ⟨rfl, hw⟩
theorem z_lretP (C : zC g E cc own Ts nL (some .long)) {v x : Int64} (d : decode cc pc = .ok (.lreturn, 1)) (hx : v = x) (hw : ws = w2) : zW g l R E (zMQ g E (zPl x w2) cells slots) nL cells slots ws lv [.long v] pc :=
  z_lret C d ⟨by rw [hx], hw⟩
theorem z_dretP (C : zC g E cc own Ts nL (some .double)) {v x : UInt64} (d : decode cc pc = .ok (.dreturn, 1)) (hx : v = x) (hw : ws = w2) : zW g l R E (zMQ g E (zPd x w2) cells slots) nL cells slots ws lv [.double v] pc :=
  z_dret C d ⟨by rw [hx], hw⟩
theorem z_vretP (C : zC g E cc own Ts nL none) (d : decode cc pc = .ok (.return_, 1)) (hw : ws = w2) : zW g l R E (zMQ g E (zPv w2) cells slots) nL cells slots ws lv [] pc :=
  z_vret C d ⟨rfl, hw⟩
theorem zW.lve (h : lv = lv') (k : zW g l R E Q nL cells slots ws lv' st pc) : zW g l R E Q nL cells slots ws lv st pc := h ▸ k
end ZR4
/-! more numbers -/
theorem zlt_N0 {x : Nat} (h : x < 2147483648) : nI x < 0 ↔ False := ⟨fun q => absurd ((nI_ltI (b := 0) h (by decide)).mp q) (Nat.not_lt_zero _), False.elim⟩
theorem zle_0N {x : Nat} (h : x < 2147483648) : 0 ≤ nI x ↔ True := ⟨fun _ => trivial, fun _ => nI_pos' h⟩
theorem zgt_0N {x : Nat} (h : x < 2147483648) : 0 < nI x ↔ 0 < x := nI_ltI (a := 0) (by decide) h
theorem zle_N0 {x : Nat} (h : x < 2147483648) : nI x ≤ 0 ↔ x = 0 := (nI_leI (b := 0) h (by decide)).trans (by omega)
/-- how many bits below k are set -/
def zPop (n : Nat) : Nat → Nat
  | 0 => 0
  | k + 1 => zPop n k + (if n.testBit k = true then 1 else 0)
/-- the second set of bids beats the first -/
def zBt (p r : Int × Nat) : Bool := if r.1 = p.1 then (if zPop r.2 12 = zPop p.2 12 then decide (r.2 < p.2) else decide (zPop p.2 12 < zPop r.2 12)) else decide (p.1 < r.1)
theorem zPop_le (n k : Nat) : zPop n k ≤ k := by
  induction k with
  | zero => exact Nat.le_refl 0
  | succ k ih =>
    unfold zPop
    split <;> omega
theorem zup_id {α : Type} (f : Nat → α) (k : Nat) : va_up f k (f k) = f := by
  funext j
  simp only [va_up]
  split
  · next h => rw [h]
  · rfl
theorem zOk.ow {a : zS} (h : zOk a) {b : Nat} (hb : b < zNb a) : zOw a b < zNd a := (h.2.2.2.2.2 b hb).1
theorem zOk.bu {a : zS} (h : zOk a) {b : Nat} (hb : b < zNb a) : zBu a b < 2 ^ zNf a := (h.2.2.2.2.2 b hb).2.2.1
theorem zOk.pr {a : zS} (h : zOk a) {b : Nat} (hb : b < zNb a) : zPr a b ≤ 999 := (h.2.2.2.2.2 b hb).2.2.2.1
theorem zOk.wo {a : zS} (h : zOk a) {b : Nat} (hb : b < zNb a) : zWo a b ≤ 999 := (h.2.2.2.2.2 b hb).2.2.2.2.1
theorem zOk.go {a : zS} (h : zOk a) {b : Nat} (hb : b < zNb a) : zGo a b ≤ 1 := (h.2.2.2.2.2 b hb).2.2.2.2.2
theorem zOk.rs {a : zS} (h : zOk a) {f : Nat} (hf : f < zNf a) : zRs a f ≤ 99 := h.2.2.2.2.1 f hf
theorem zp2_le {n k : Nat} (h : n ≤ k) : 2 ^ n ≤ 2 ^ k := Nat.pow_le_pow_right (by decide) h
theorem zOk.bu8 {a : zS} (h : zOk a) {b : Nat} (hb : b < zNb a) : zBu a b < 256 := by
  have h1 := h.bu hb
  have h2 : 2 ^ zNf a ≤ 2 ^ 8 := zp2_le h.1
  omega
theorem zSum_le {f : Nat → Nat} {c : Nat} : ∀ n, (∀ i, i < n → f i ≤ c) → zSum f n ≤ n * c
  | 0, _ => Nat.zero_le _
  | n + 1, h => by
    have h1 := zSum_le n (fun i hi => h i (by omega))
    have h2 := h n (by omega)
    unfold zSum
    rw [Nat.succ_mul]
    omega
theorem zRes_le {a : zS} (h : zOk a) (m : Nat) : zRes a m ≤ 792 := by
  have h1 : zRes a m ≤ zNf a * 99 := zSum_le _ (fun i hi => by
    show (if m.testBit i = true then zRs a i else 0) ≤ 99
    split
    · exact h.rs hi
    · exact Nat.zero_le _)
  have h2 := h.1
  omega
theorem zGn_bnd {a : zS} (h : zOk a) {b : Nat} (hb : b < zNb a) : -792 ≤ zGn a b ∧ zGn a b ≤ 999 := by
  have h1 := zRes_le h (zBu a b)
  have h2 := h.pr hb
  unfold zGn
  omega
theorem zG0_bnd {a : zS} (h : zOk a) (b : Nat) : -792 ≤ zG0 a b ∧ zG0 a b ≤ 999 := by
  unfold zG0
  split
  · next hb => exact zGn_bnd h hb
  · omega
theorem zn0 : nI 0 = 0 := rfl
theorem zn1 : nI 1 = 1 := rfl
