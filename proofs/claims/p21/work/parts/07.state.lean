/-! numbers of the walk: nI of naturals, iZ of integers, bI of truth values -/
def iZ (x : Int) : Int32 := Int32.ofInt x
def bI (b : Bool) : Int32 := if b = true then 1 else 0
theorem iZ_n (n : Nat) : iZ (n : Int) = nI n := rfl
theorem nI_iZ (n : Nat) : nI n = iZ (n : Int) := rfl
theorem iZ_add (x y : Int) : iZ x + iZ y = iZ (x + y) := (Int32.ofInt_add x y).symm
theorem iZ_sub (x y : Int) : iZ x - iZ y = iZ (x - y) := (Int32.ofInt_sub x y).symm
theorem iZ_mul (x y : Int) : iZ x * iZ y = iZ (x * y) := (Int32.ofInt_mul x y).symm
def zB31 (x : Int) : Prop := -2147483648 ≤ x ∧ x < 2147483648
theorem iZ_toInt {x : Int} (h : zB31 x) : (iZ x).toInt = x := by
  unfold iZ zB31 at *
  exact Int32.toInt_ofInt_of_le h.1 h.2
theorem zlt_ZZ {x y : Int} (hx : zB31 x) (hy : zB31 y) : iZ x < iZ y ↔ x < y := by rw [Int32.lt_iff_toInt_lt, iZ_toInt hx, iZ_toInt hy]
theorem zle_ZZ {x y : Int} (hx : zB31 x) (hy : zB31 y) : iZ x ≤ iZ y ↔ x ≤ y := by rw [Int32.le_iff_toInt_le, iZ_toInt hx, iZ_toInt hy]
theorem zeq_ZZ {x y : Int} (hx : zB31 x) (hy : zB31 y) : iZ x = iZ y ↔ x = y := by
  refine ⟨fun h => ?_, fun h => by rw [h]⟩
  have h2 := congrArg Int32.toInt h
  rwa [iZ_toInt hx, iZ_toInt hy] at h2
theorem zlt_NN {x y : Nat} (hx : x < 2147483648) (hy : y < 2147483648) : nI x < nI y ↔ x < y := nI_ltI hx hy
theorem zle_NN {x y : Nat} (hx : x < 2147483648) (hy : y < 2147483648) : nI x ≤ nI y ↔ x ≤ y := nI_leI hx hy
theorem zeq_NN {x y : Nat} (hx : x < 2147483648) (hy : y < 2147483648) : nI x = nI y ↔ x = y := nI_eq hx hy
theorem zeq_N0 {x : Nat} (hx : x < 2147483648) : nI x = 0 ↔ x = 0 := nI_eq (b := 0) hx (by decide)
theorem zle_0Z {x : Int} (hx : zB31 x) : 0 ≤ iZ x ↔ 0 ≤ x := zle_ZZ (x := 0) ⟨by decide, by decide⟩ hx
theorem zlt_Z0 {x : Int} (hx : zB31 x) : iZ x < 0 ↔ x < 0 := zlt_ZZ (y := 0) hx ⟨by decide, by decide⟩
theorem zeq_B0 (b : Bool) : bI b = 0 ↔ b = false := by cases b <;> decide
theorem zbI_nar (b : Bool) : narrow .boolean (.int (bI b)) = .int (bI b) := by cases b <;> rfl
theorem zbI_vp (b : Bool) : vp_nar .boolean (bI b) = bI b := by cases b <;> rfl
theorem zand_NN (x y : Nat) : nI x &&& nI y = nI (x &&& y) := by
  unfold nI
  apply Int32.toBitVec_inj.mp
  simp only [Int32.toBitVec_and, Int32.toBitVec_ofNat']
  exact BitVec.ofNat_and.symm
theorem zor_NN (x y : Nat) : nI x ||| nI y = nI (x ||| y) := by
  unfold nI
  apply Int32.toBitVec_inj.mp
  simp only [Int32.toBitVec_or, Int32.toBitVec_ofNat']
  exact BitVec.ofNat_or.symm
theorem zsh_cnt : ∀ k : Fin 31, (((nI k.val) &&& 31).toBitVec.smod 32).toNat = k.val := by decide +kernel
theorem zshl_NN {x k : Nat} (hk : k < 31) (h : x * 2 ^ k < 4294967296) : nI x <<< (nI k &&& 31) = nI (x * 2 ^ k) := pk_shlN _ k (zsh_cnt ⟨k, hk⟩) h
theorem zshl_1N {k : Nat} (hk : k < 31) : (1 : Int32) <<< (nI k &&& 31) = nI (2 ^ k) := by
  have h := zshl_NN (x := 1) hk (by
    have h2 : 2 ^ k ≤ 2 ^ 30 := Nat.pow_le_pow_right (by decide) (by omega)
    omega)
  rw [Nat.one_mul] at h
  exact h
theorem zshr_NN {x k : Nat} (hk : k < 31) (hx : x < 2147483648) : nI x >>> (nI k &&& 31) = nI (x / 2 ^ k) := pk_shrN hx _ k (zsh_cnt ⟨k, hk⟩)
theorem zbit_pow (n k : Nat) : n &&& 2 ^ k = 0 ↔ n.testBit k = false := by
  constructor
  · intro h
    have h2 := congrArg (fun x => Nat.testBit x k) h
    simpa [Nat.testBit_and, Nat.testBit_two_pow] using h2
  · intro h
    apply Nat.eq_of_testBit_eq
    intro i
    rw [Nat.testBit_and, Nat.testBit_two_pow, Nat.zero_testBit]
    by_cases e : k = i
    · subst e; simp [h]
    · simp [e]
/-- n & (1 << k), against 0 -/
theorem zbit_0 {n k : Nat} (hk : k < 31) : nI (n &&& 2 ^ k) = 0 ↔ n.testBit k = false := by
  have h1 : n &&& 2 ^ k < 2147483648 := by
    have h2 : n &&& 2 ^ k ≤ 2 ^ k := Nat.and_le_right
    have h3 : 2 ^ k ≤ 2 ^ 30 := Nat.pow_le_pow_right (by decide) (by omega)
    omega
  rw [zeq_N0 h1, zbit_pow]
/-! the state of the system -/
abbrev zS : Type := Nat × Nat × Nat × Nat × (Nat → Nat) × (Nat → Nat) × (Nat → Nat) × (Nat → Nat) × (Nat → Nat) × (Nat → Nat)
def zNf (a : zS) : Nat := a.1
def zNd (a : zS) : Nat := a.2.1
def zNb (a : zS) : Nat := a.2.2.1
def zOu (a : zS) : Nat := a.2.2.2.1
def zRs (a : zS) : Nat → Nat := a.2.2.2.2.1
def zOw (a : zS) : Nat → Nat := a.2.2.2.2.2.1
def zBu (a : zS) : Nat → Nat := a.2.2.2.2.2.2.1
def zPr (a : zS) : Nat → Nat := a.2.2.2.2.2.2.2.1
def zWo (a : zS) : Nat → Nat := a.2.2.2.2.2.2.2.2.1
def zGo (a : zS) : Nat → Nat := a.2.2.2.2.2.2.2.2.2
def zMk (nf nd nb ou : Nat) (rs ow bu pr wo go : Nat → Nat) : zS := (nf, nd, nb, ou, rs, ow, bu, pr, wo, go)
def zSetRs (a : zS) (f x : Nat) : zS := zMk (zNf a) (zNd a) (zNb a) (zOu a) (va_up (zRs a) f x) (zOw a) (zBu a) (zPr a) (zWo a) (zGo a)
def zSetNf (a : zS) (n : Nat) : zS := zMk n (zNd a) (zNb a) (zOu a) (zRs a) (zOw a) (zBu a) (zPr a) (zWo a) (zGo a)
def zSetNd (a : zS) (n : Nat) : zS := zMk (zNf a) n (zNb a) (zOu a) (zRs a) (zOw a) (zBu a) (zPr a) (zWo a) (zGo a)
def zSetNb (a : zS) (n : Nat) : zS := zMk (zNf a) (zNd a) n (zOu a) (zRs a) (zOw a) (zBu a) (zPr a) (zWo a) (zGo a)
def zSetOu (a : zS) (n : Nat) : zS := zMk (zNf a) (zNd a) (zNb a) n (zRs a) (zOw a) (zBu a) (zPr a) (zWo a) (zGo a)
def zSetOw (a : zS) (b x : Nat) : zS := zMk (zNf a) (zNd a) (zNb a) (zOu a) (zRs a) (va_up (zOw a) b x) (zBu a) (zPr a) (zWo a) (zGo a)
def zSetBu (a : zS) (b x : Nat) : zS := zMk (zNf a) (zNd a) (zNb a) (zOu a) (zRs a) (zOw a) (va_up (zBu a) b x) (zPr a) (zWo a) (zGo a)
def zSetPr (a : zS) (b x : Nat) : zS := zMk (zNf a) (zNd a) (zNb a) (zOu a) (zRs a) (zOw a) (zBu a) (va_up (zPr a) b x) (zWo a) (zGo a)
def zSetWo (a : zS) (b x : Nat) : zS := zMk (zNf a) (zNd a) (zNb a) (zOu a) (zRs a) (zOw a) (zBu a) (zPr a) (va_up (zWo a) b x) (zGo a)
def zSetGo (a : zS) (b x : Nat) : zS := zMk (zNf a) (zNd a) (zNb a) (zOu a) (zRs a) (zOw a) (zBu a) (zPr a) (zWo a) (va_up (zGo a) b x)
/-- what holds of every state -/
def zOk (a : zS) : Prop := zNf a ≤ 8 ∧ zNd a ≤ 5 ∧ zNb a ≤ 12 ∧ zOu a < 2 ^ zNd a ∧ (∀ f, f < zNf a → zRs a f ≤ 99) ∧ ∀ b, b < zNb a → zOw a b < zNd a ∧ 0 < zBu a b ∧ zBu a b < 2 ^ zNf a ∧ zPr a b ≤ 999 ∧ zWo a b ≤ 999 ∧ zGo a b ≤ 1
def zSum (f : Nat → Nat) : Nat → Nat
  | 0 => 0
  | n + 1 => zSum f n + f n
def zRes (a : zS) (m : Nat) : Nat := zSum (fun f => if m.testBit f = true then zRs a f else 0) (zNf a)
def zGn (a : zS) (b : Nat) : Int := (zPr a b : Int) - (zRes a (zBu a b) : Int)
def zG0 (a : zS) : Nat → Int := fun k => if k < zNb a then zGn a k else 0
def zCn (a : zS) (o b : Nat) : Bool := zGo a b == 0 && (!(o.testBit (zOw a b)) && decide (0 ≤ zGn a b))
def zIn (a : zS) (k : Nat) : Bool := decide (k < zNd a) && !((zOu a).testBit k)
/-! the class's world: 0 the object, 1 reserves, 2 ins, 3 owners, 4 bundles, 5 prices, 6 gains, 7 worths, 8 withdrawn, 9 to 11 the sets of bids (of the sale, of the imagined one, of the search), 12, 13 the sales, 14, 15 their winning bids, 16, 17 what is paid, 18, 19 the sums without -/
def wB (g : zG) (q : Nat → Nat) (a : zS) (G : Nat → Int) (bs : Nat → Int × Nat) (wb pd gw : Nat → Nat → Int) : va_W :=
  [(q 0, .inr (2, [.ref (q 1), .int (nI (zNf a)), .ref (q 2), .int (nI (zNd a)), .ref (q 3), .ref (q 4), .ref (q 5), .ref (q 6), .ref (q 7), .ref (q 8), .int (nI (zNb a)), .ref (q 12), .ref (q 13), .ref (q 11)])),
   (q 1, .inl (zI g, 8, .inl (fun k => nI (zRs a k)))), (q 2, .inl (zZ g, 5, .inl (fun k => bI (zIn a k)))),
   (q 3, .inl (zI g, 12, .inl (fun k => nI (zOw a k)))), (q 4, .inl (zI g, 12, .inl (fun k => nI (zBu a k)))), (q 5, .inl (zI g, 12, .inl (fun k => nI (zPr a k)))),
   (q 6, .inl (zI g, 12, .inl (fun k => iZ (G k)))), (q 7, .inl (zI g, 12, .inl (fun k => nI (zWo a k)))), (q 8, .inl (zZ g, 12, .inl (fun k => nI (zGo a k)))),
   (q 9, .inr (0, [.int (iZ (bs 0).1), .int (nI (bs 0).2)])), (q 10, .inr (0, [.int (iZ (bs 1).1), .int (nI (bs 1).2)])), (q 11, .inr (0, [.int (iZ (bs 2).1), .int (nI (bs 2).2)])),
   (q 12, .inr (1, [.ref (q 9), .ref (q 14), .ref (q 16), .ref (q 18)])), (q 13, .inr (1, [.ref (q 10), .ref (q 15), .ref (q 17), .ref (q 19)])),
   (q 14, .inl (zI g, 5, .inl (fun d => iZ (wb 0 d)))), (q 15, .inl (zI g, 5, .inl (fun d => iZ (wb 1 d)))),
   (q 16, .inl (zI g, 5, .inl (fun d => iZ (pd 0 d)))), (q 17, .inl (zI g, 5, .inl (fun d => iZ (pd 1 d)))),
   (q 18, .inl (zI g, 5, .inl (fun d => iZ (gw 0 d)))), (q 19, .inl (zI g, 5, .inl (fun d => iZ (gw 1 d))))]
section WB
variable {g : zG} {q : Nat → Nat} {a : zS} {G : Nat → Int} {bs : Nat → Int × Nat} {wb pd gw : Nat → Nat → Int}
theorem wB_o : (wB g q a G bs wb pd gw)[0]? = some (q 0, .inr (2, [.ref (q 1), .int (nI (zNf a)), .ref (q 2), .int (nI (zNd a)), .ref (q 3), .ref (q 4), .ref (q 5), .ref (q 6), .ref (q 7), .ref (q 8), .int (nI (zNb a)), .ref (q 12), .ref (q 13), .ref (q 11)])) := rfl
theorem wB_rs : (wB g q a G bs wb pd gw)[1]? = some (q 1, .inl (zI g, 8, .inl (fun k => nI (zRs a k)))) := rfl
theorem wB_in : (wB g q a G bs wb pd gw)[2]? = some (q 2, .inl (zZ g, 5, .inl (fun k => bI (zIn a k)))) := rfl
theorem wB_ow : (wB g q a G bs wb pd gw)[3]? = some (q 3, .inl (zI g, 12, .inl (fun k => nI (zOw a k)))) := rfl
theorem wB_bu : (wB g q a G bs wb pd gw)[4]? = some (q 4, .inl (zI g, 12, .inl (fun k => nI (zBu a k)))) := rfl
theorem wB_pr : (wB g q a G bs wb pd gw)[5]? = some (q 5, .inl (zI g, 12, .inl (fun k => nI (zPr a k)))) := rfl
theorem wB_G : (wB g q a G bs wb pd gw)[6]? = some (q 6, .inl (zI g, 12, .inl (fun k => iZ (G k)))) := rfl
theorem wB_wo : (wB g q a G bs wb pd gw)[7]? = some (q 7, .inl (zI g, 12, .inl (fun k => nI (zWo a k)))) := rfl
theorem wB_go : (wB g q a G bs wb pd gw)[8]? = some (q 8, .inl (zZ g, 12, .inl (fun k => nI (zGo a k)))) := rfl
theorem wB_bs {z : Nat} (hz : z < 3) : (wB g q a G bs wb pd gw)[9 + z]? = some (q (9 + z), .inr (0, [.int (iZ (bs z).1), .int (nI (bs z).2)])) := by
  match z, hz with
  | 0, _ => rfl
  | 1, _ => rfl
  | 2, _ => rfl
theorem wB_sl {z : Nat} (hz : z < 2) : (wB g q a G bs wb pd gw)[12 + z]? = some (q (12 + z), .inr (1, [.ref (q (9 + z)), .ref (q (14 + z)), .ref (q (16 + z)), .ref (q (18 + z))])) := by
  match z, hz with
  | 0, _ => rfl
  | 1, _ => rfl
theorem wB_wb {z : Nat} (hz : z < 2) : (wB g q a G bs wb pd gw)[14 + z]? = some (q (14 + z), .inl (zI g, 5, .inl (fun d => iZ (wb z d)))) := by
  match z, hz with
  | 0, _ => rfl
  | 1, _ => rfl
theorem wB_pd {z : Nat} (hz : z < 2) : (wB g q a G bs wb pd gw)[16 + z]? = some (q (16 + z), .inl (zI g, 5, .inl (fun d => iZ (pd z d)))) := by
  match z, hz with
  | 0, _ => rfl
  | 1, _ => rfl
theorem wB_gw {z : Nat} (hz : z < 2) : (wB g q a G bs wb pd gw)[18 + z]? = some (q (18 + z), .inl (zI g, 5, .inl (fun d => iZ (gw z d)))) := by
  match z, hz with
  | 0, _ => rfl
  | 1, _ => rfl
-- writes
theorem zup_N (f : Nat → Nat) (k x : Nat) : upd (fun j => nI (f j)) k (nI x) = fun j => nI (va_up f k x j) := by
  funext j
  simp only [upd, va_up]
  split <;> rfl
theorem zup_Z (f : Nat → Int) (k : Nat) (x : Int) : upd (fun j => iZ (f j)) k (iZ x) = fun j => iZ (va_up f k x j) := by
  funext j
  simp only [upd, va_up]
  split <;> rfl
/-- an array of a family is written -/
def zup2 {α : Type} (w : Nat → Nat → α) (z k : Nat) (x : α) : Nat → Nat → α := va_up w z (va_up (w z) k x)
theorem wB_set_rs (f x : Nat) : (wB g q a G bs wb pd gw).set 1 (q 1, .inl (zI g, 8, .inl (upd (fun k => nI (zRs a k)) f (nI x)))) = wB g q (zSetRs a f x) G bs wb pd gw := by rw [zup_N]; rfl
theorem wB_set_ow (f x : Nat) : (wB g q a G bs wb pd gw).set 3 (q 3, .inl (zI g, 12, .inl (upd (fun k => nI (zOw a k)) f (nI x)))) = wB g q (zSetOw a f x) G bs wb pd gw := by rw [zup_N]; rfl
theorem wB_set_bu (f x : Nat) : (wB g q a G bs wb pd gw).set 4 (q 4, .inl (zI g, 12, .inl (upd (fun k => nI (zBu a k)) f (nI x)))) = wB g q (zSetBu a f x) G bs wb pd gw := by rw [zup_N]; rfl
theorem wB_set_pr (f x : Nat) : (wB g q a G bs wb pd gw).set 5 (q 5, .inl (zI g, 12, .inl (upd (fun k => nI (zPr a k)) f (nI x)))) = wB g q (zSetPr a f x) G bs wb pd gw := by rw [zup_N]; rfl
theorem wB_set_G (f : Nat) (x : Int) : (wB g q a G bs wb pd gw).set 6 (q 6, .inl (zI g, 12, .inl (upd (fun k => iZ (G k)) f (iZ x)))) = wB g q a (va_up G f x) bs wb pd gw := by rw [zup_Z]; rfl
theorem wB_set_wo (f x : Nat) : (wB g q a G bs wb pd gw).set 7 (q 7, .inl (zI g, 12, .inl (upd (fun k => nI (zWo a k)) f (nI x)))) = wB g q (zSetWo a f x) G bs wb pd gw := by rw [zup_N]; rfl
theorem wB_set_go (f x : Nat) : (wB g q a G bs wb pd gw).set 8 (q 8, .inl (zZ g, 12, .inl (upd (fun k => nI (zGo a k)) f (nI x)))) = wB g q (zSetGo a f x) G bs wb pd gw := by rw [zup_N]; rfl
theorem wB_set_nf (n : Nat) : (wB g q a G bs wb pd gw).set 0 (q 0, .inr (2, [Value.ref (q 1), .int (nI (zNf a)), .ref (q 2), .int (nI (zNd a)), .ref (q 3), .ref (q 4), .ref (q 5), .ref (q 6), .ref (q 7), .ref (q 8), .int (nI (zNb a)), .ref (q 12), .ref (q 13), .ref (q 11)].set 1 (.int (nI n)))) = wB g q (zSetNf a n) G bs wb pd gw := rfl
theorem wB_set_nb (n : Nat) : (wB g q a G bs wb pd gw).set 0 (q 0, .inr (2, [Value.ref (q 1), .int (nI (zNf a)), .ref (q 2), .int (nI (zNd a)), .ref (q 3), .ref (q 4), .ref (q 5), .ref (q 6), .ref (q 7), .ref (q 8), .int (nI (zNb a)), .ref (q 12), .ref (q 13), .ref (q 11)].set 10 (.int (nI n)))) = wB g q (zSetNb a n) G bs wb pd gw := rfl
theorem wB_set_bs1 {z : Nat} (hz : z < 3) (x : Int) : (wB g q a G bs wb pd gw).set (9 + z) (q (9 + z), .inr (0, [Value.int (iZ (bs z).1), .int (nI (bs z).2)].set 0 (.int (iZ x)))) = wB g q a G (va_up bs z (x, (bs z).2)) wb pd gw := by
  match z, hz with
  | 0, _ => rfl
  | 1, _ => rfl
  | 2, _ => rfl
theorem wB_set_bs2 {z : Nat} (hz : z < 3) (x : Nat) : (wB g q a G bs wb pd gw).set (9 + z) (q (9 + z), .inr (0, [Value.int (iZ (bs z).1), .int (nI (bs z).2)].set 1 (.int (nI x)))) = wB g q a G (va_up bs z ((bs z).1, x)) wb pd gw := by
  match z, hz with
  | 0, _ => rfl
  | 1, _ => rfl
  | 2, _ => rfl
theorem wB_set_wb {z : Nat} (hz : z < 2) (d : Nat) (x : Int) : (wB g q a G bs wb pd gw).set (14 + z) (q (14 + z), .inl (zI g, 5, .inl (upd (fun d => iZ (wb z d)) d (iZ x)))) = wB g q a G bs (zup2 wb z d x) pd gw := by
  rw [zup_Z]
  match z, hz with
  | 0, _ => rfl
  | 1, _ => rfl
theorem wB_set_pd {z : Nat} (hz : z < 2) (d : Nat) (x : Int) : (wB g q a G bs wb pd gw).set (16 + z) (q (16 + z), .inl (zI g, 5, .inl (upd (fun d => iZ (pd z d)) d (iZ x)))) = wB g q a G bs wb (zup2 pd z d x) gw := by
  rw [zup_Z]
  match z, hz with
  | 0, _ => rfl
  | 1, _ => rfl
theorem wB_set_gw {z : Nat} (hz : z < 2) (d : Nat) (x : Int) : (wB g q a G bs wb pd gw).set (18 + z) (q (18 + z), .inl (zI g, 5, .inl (upd (fun d => iZ (gw z d)) d (iZ x)))) = wB g q a G bs wb pd (zup2 gw z d x) := by
  rw [zup_Z]
  match z, hz with
  | 0, _ => rfl
  | 1, _ => rfl
end WB
