/-! the reference's world: 0 the object, 1 reserves, 2 rows, 3 land, 4 people, 5 gains, 6 sizes -/
def zRw (a : zS) (k : Nat) : Nat := if k % 5 = 0 then zOw a (k / 5) else if k % 5 = 1 then zBu a (k / 5) else if k % 5 = 2 then zPr a (k / 5) else if k % 5 = 3 then zWo a (k / 5) else zGo a (k / 5)
theorem zRw_0 (a : zS) (b : Nat) : zRw a (5 * b + 0) = zOw a b := by unfold zRw; rw [if_pos (by omega), show (5 * b + 0) / 5 = b by omega]
theorem zRw_1 (a : zS) (b : Nat) : zRw a (5 * b + 1) = zBu a b := by unfold zRw; rw [if_neg (by omega), if_pos (by omega), show (5 * b + 1) / 5 = b by omega]
theorem zRw_2 (a : zS) (b : Nat) : zRw a (5 * b + 2) = zPr a b := by unfold zRw; rw [if_neg (by omega), if_neg (by omega), if_pos (by omega), show (5 * b + 2) / 5 = b by omega]
theorem zRw_3 (a : zS) (b : Nat) : zRw a (5 * b + 3) = zWo a b := by unfold zRw; rw [if_neg (by omega), if_neg (by omega), if_neg (by omega), if_pos (by omega), show (5 * b + 3) / 5 = b by omega]
theorem zRw_4 (a : zS) (b : Nat) : zRw a (5 * b + 4) = zGo a b := by unfold zRw; rw [if_neg (by omega), if_neg (by omega), if_neg (by omega), if_neg (by omega), show (5 * b + 4) / 5 = b by omega]
def wM (g : zG) (q : Nat → Nat) (th : Int) (a : zS) (la : Nat → Int) (pe : Nat → Nat) (ga : Nat → Int) (sz : Nat → Nat) : va_W :=
  [(q 0, .inr (3, [.int (iZ th), .int (nI (zNf a)), .int (nI (zNd a)), .int (nI (zNb a)), .int (nI (zOu a)), .ref (q 1), .ref (q 2), .ref (q 3), .ref (q 4), .ref (q 5), .ref (q 6)])),
   (q 1, .inl (zI g, 8, .inl (fun k => nI (zRs a k)))), (q 2, .inl (zI g, 60, .inl (fun k => nI (zRw a k)))), (q 3, .inl (zI g, 4096, .inl (fun k => iZ (la k)))),
   (q 4, .inl (zI g, 4096, .inl (fun k => nI (pe k)))), (q 5, .inl (zI g, 4096, .inl (fun k => iZ (ga k)))), (q 6, .inl (zI g, 4096, .inl (fun k => nI (sz k))))]
section WM
variable {g : zG} {q : Nat → Nat} {th : Int} {a : zS} {la : Nat → Int} {pe : Nat → Nat} {ga : Nat → Int} {sz : Nat → Nat}
theorem wM_o : (wM g q th a la pe ga sz)[0]? = some (q 0, .inr (3, [.int (iZ th), .int (nI (zNf a)), .int (nI (zNd a)), .int (nI (zNb a)), .int (nI (zOu a)), .ref (q 1), .ref (q 2), .ref (q 3), .ref (q 4), .ref (q 5), .ref (q 6)])) := rfl
theorem wM_rs : (wM g q th a la pe ga sz)[1]? = some (q 1, .inl (zI g, 8, .inl (fun k => nI (zRs a k)))) := rfl
theorem wM_rw : (wM g q th a la pe ga sz)[2]? = some (q 2, .inl (zI g, 60, .inl (fun k => nI (zRw a k)))) := rfl
theorem wM_la : (wM g q th a la pe ga sz)[3]? = some (q 3, .inl (zI g, 4096, .inl (fun k => iZ (la k)))) := rfl
theorem wM_pe : (wM g q th a la pe ga sz)[4]? = some (q 4, .inl (zI g, 4096, .inl (fun k => nI (pe k)))) := rfl
theorem wM_ga : (wM g q th a la pe ga sz)[5]? = some (q 5, .inl (zI g, 4096, .inl (fun k => iZ (ga k)))) := rfl
theorem wM_sz : (wM g q th a la pe ga sz)[6]? = some (q 6, .inl (zI g, 4096, .inl (fun k => nI (sz k)))) := rfl
theorem wM_set_la (f : Nat) (x : Int) : (wM g q th a la pe ga sz).set 3 (q 3, .inl (zI g, 4096, .inl (upd (fun k => iZ (la k)) f (iZ x)))) = wM g q th a (va_up la f x) pe ga sz := by rw [zup_Z]; rfl
theorem wM_set_pe (f x : Nat) : (wM g q th a la pe ga sz).set 4 (q 4, .inl (zI g, 4096, .inl (upd (fun k => nI (pe k)) f (nI x)))) = wM g q th a la (va_up pe f x) ga sz := by rw [zup_N]; rfl
theorem wM_set_ga (f : Nat) (x : Int) : (wM g q th a la pe ga sz).set 5 (q 5, .inl (zI g, 4096, .inl (upd (fun k => iZ (ga k)) f (iZ x)))) = wM g q th a la pe (va_up ga f x) sz := by rw [zup_Z]; rfl
theorem wM_set_sz (f x : Nat) : (wM g q th a la pe ga sz).set 6 (q 6, .inl (zI g, 4096, .inl (upd (fun k => nI (sz k)) f (nI x)))) = wM g q th a la pe ga (va_up sz f x) := by rw [zup_N]; rfl
theorem wM_set_rs (f x : Nat) : (wM g q th a la pe ga sz).set 1 (q 1, .inl (zI g, 8, .inl (upd (fun k => nI (zRs a k)) f (nI x)))) = wM g q th (zSetRs a f x) la pe ga sz := by rw [zup_N]; rfl
theorem wM_set_th (x : Int) : (wM g q th a la pe ga sz).set 0 (q 0, .inr (3, [Value.int (iZ th), .int (nI (zNf a)), .int (nI (zNd a)), .int (nI (zNb a)), .int (nI (zOu a)), .ref (q 1), .ref (q 2), .ref (q 3), .ref (q 4), .ref (q 5), .ref (q 6)].set 0 (.int (iZ x)))) = wM g q x a la pe ga sz := rfl
theorem wM_set_nf (n : Nat) : (wM g q th a la pe ga sz).set 0 (q 0, .inr (3, [Value.int (iZ th), .int (nI (zNf a)), .int (nI (zNd a)), .int (nI (zNb a)), .int (nI (zOu a)), .ref (q 1), .ref (q 2), .ref (q 3), .ref (q 4), .ref (q 5), .ref (q 6)].set 1 (.int (nI n)))) = wM g q th (zSetNf a n) la pe ga sz := rfl
theorem wM_set_nd (n : Nat) : (wM g q th a la pe ga sz).set 0 (q 0, .inr (3, [Value.int (iZ th), .int (nI (zNf a)), .int (nI (zNd a)), .int (nI (zNb a)), .int (nI (zOu a)), .ref (q 1), .ref (q 2), .ref (q 3), .ref (q 4), .ref (q 5), .ref (q 6)].set 2 (.int (nI n)))) = wM g q th (zSetNd a n) la pe ga sz := rfl
theorem wM_set_nb (n : Nat) : (wM g q th a la pe ga sz).set 0 (q 0, .inr (3, [Value.int (iZ th), .int (nI (zNf a)), .int (nI (zNd a)), .int (nI (zNb a)), .int (nI (zOu a)), .ref (q 1), .ref (q 2), .ref (q 3), .ref (q 4), .ref (q 5), .ref (q 6)].set 3 (.int (nI n)))) = wM g q th (zSetNb a n) la pe ga sz := rfl
theorem wM_set_ou (n : Nat) : (wM g q th a la pe ga sz).set 0 (q 0, .inr (3, [Value.int (iZ th), .int (nI (zNf a)), .int (nI (zNd a)), .int (nI (zNb a)), .int (nI (zOu a)), .ref (q 1), .ref (q 2), .ref (q 3), .ref (q 4), .ref (q 5), .ref (q 6)].set 4 (.int (nI n)))) = wM g q th (zSetOu a n) la pe ga sz := rfl
end WM
theorem zeq_B1 (b : Bool) : bI b = nI 1 ↔ b = true := by cases b <;> decide
theorem zbit_ok {v k : Nat} : nI (v / 2 ^ k &&& 1) = bI (v.testBit k) := by
  have h : v / 2 ^ k &&& 1 = if v.testBit k = true then 1 else 0 := by
    rw [Nat.and_one_is_mod, Nat.testBit_eq_decide_div_mod_eq]
    by_cases h : v / 2 ^ k % 2 = 1
    · simp [h]
    · simp [h]; omega
  rw [h]
  cases v.testBit k <;> rfl
theorem zB_mul (b : Bool) (r : Nat) : bI b * nI r = nI (if b = true then r else 0) := by
  cases b
  · show (0 : Int32) * nI r = nI 0
    rw [Int32.zero_mul]; rfl
  · show (1 : Int32) * nI r = nI r
    rw [Int32.one_mul]
-- sets of bids, by the bits of a number
def mLd (a : zS) (n : Nat) : Nat → Nat
  | 0 => 0
  | k + 1 => if n.testBit k = true then mLd a n k ||| zBu a k else mLd a n k
def mPp (a : zS) (n : Nat) : Nat → Nat
  | 0 => 0
  | k + 1 => if n.testBit k = true then mPp a n k ||| 2 ^ zOw a k else mPp a n k
def mGs (a : zS) (n : Nat) : Nat → Int
  | 0 => 0
  | k + 1 => if n.testBit k = true then mGs a n k + zGn a k else mGs a n k
def mFe (a : zS) (n : Nat) : Nat → Bool
  | 0 => true
  | k + 1 => if n.testBit k = true then mFe a n k && (zCn a (zOu a) k && ((mLd a n k &&& zBu a k == 0) && !((mPp a n k).testBit (zOw a k)))) else mFe a n k
theorem mLd_s (a : zS) (n k : Nat) : mLd a n (k + 1) = if n.testBit k = true then mLd a n k ||| zBu a k else mLd a n k := rfl
theorem mPp_s (a : zS) (n k : Nat) : mPp a n (k + 1) = if n.testBit k = true then mPp a n k ||| 2 ^ zOw a k else mPp a n k := rfl
theorem mGs_s (a : zS) (n k : Nat) : mGs a n (k + 1) = if n.testBit k = true then mGs a n k + zGn a k else mGs a n k := rfl
theorem mFe_s (a : zS) (n k : Nat) : mFe a n (k + 1) = if n.testBit k = true then mFe a n k && (zCn a (zOu a) k && ((mLd a n k &&& zBu a k == 0) && !((mPp a n k).testBit (zOw a k)))) else mFe a n k := rfl
theorem zPop_s (n k : Nat) : zPop n (k + 1) = zPop n k + (if n.testBit k = true then 1 else 0) := rfl
def mLa (a : zS) (n : Nat) : Int := if mFe a n 12 = true then (mLd a n 12 : Int) else -1
def mGa (a : zS) (n : Nat) : Int := mGs a n 12
def mPe (a : zS) (n : Nat) : Nat := mPp a n 12
def mBtr (a : zS) (n m : Nat) : Bool := if mGa a m < mGa a n then true else if mGa a n = mGa a m then decide (zPop m 12 < zPop n 12) else false
/-- the best set below n -/
def mBU (a : zS) : Nat → Nat
  | 0 => 0
  | n + 1 => if mFe a n 12 = true ∧ mBtr a n (mBU a n) = true then n else mBU a n
def mBest (a : zS) : Nat := mBU a (2 ^ zNb a)
theorem mBU_1 (a : zS) : mBU a 1 = 0 := by
  show (if _ ∧ mBtr a 0 0 = true then 0 else 0) = 0
  exact ite_self 0
theorem mBU_lt (a : zS) : ∀ n, 0 < n → mBU a n < n
  | 0, h => absurd h (by decide)
  | 1, _ => by rw [mBU_1]; decide
  | n + 2, _ => by
    have h := mBU_lt a (n + 1) (by omega)
    show (if mFe a (n + 1) 12 = true ∧ mBtr a (n + 1) (mBU a (n + 1)) = true then n + 1 else mBU a (n + 1)) < n + 2
    split <;> omega
theorem mBest_lt (a : zS) : mBest a < 2 ^ zNb a := mBU_lt a _ (Nat.two_pow_pos _)
theorem zbit_top {b r k : Nat} (hr : r < 2 ^ b) : (2 ^ b + r).testBit k = if k = b then true else if k < b then r.testBit k else false := by
  by_cases h : k = b
  · subst h; rw [if_pos rfl, Nat.testBit_two_pow_add_eq, Nat.testBit_lt_two_pow hr]; rfl
  · rw [if_neg h]
    by_cases h2 : k < b
    · rw [if_pos h2, Nat.testBit_two_pow_add_gt h2]
    · rw [if_neg h2]
      refine Nat.testBit_lt_two_pow (Nat.lt_of_lt_of_le (m := 2 ^ (b + 1)) (by rw [Nat.pow_succ]; omega) (zp2_le (by omega)))
theorem zbit_hi {b r k : Nat} (hr : r < 2 ^ b) (h : b ≤ k) : r.testBit k = false := Nat.testBit_lt_two_pow (Nat.lt_of_lt_of_le hr (zp2_le h))
section SETS
variable {a : zS} {b r : Nat} (hr : r < 2 ^ b)
theorem zset_lo (hr : r < 2 ^ b) : ∀ k, k ≤ b → mLd a (2 ^ b + r) k = mLd a r k ∧ mPp a (2 ^ b + r) k = mPp a r k ∧ mGs a (2 ^ b + r) k = mGs a r k ∧ mFe a (2 ^ b + r) k = mFe a r k ∧ zPop (2 ^ b + r) k = zPop r k
  | 0, _ => ⟨rfl, rfl, rfl, rfl, rfl⟩
  | k + 1, h => by
    obtain ⟨h1, h2, h3, h4, h5⟩ := zset_lo hr k (by omega)
    have e : (2 ^ b + r).testBit k = r.testBit k := by rw [zbit_top hr, if_neg (by omega), if_pos (by omega)]
    rw [mLd_s, mPp_s, mGs_s, mFe_s, zPop_s, mLd_s, mPp_s, mGs_s, mFe_s, zPop_s, h1, h2, h3, h4, h5, e]
    exact ⟨rfl, rfl, rfl, rfl, rfl⟩
theorem zset_hi (hr : r < 2 ^ b) : ∀ j, mLd a r (b + j) = mLd a r b ∧ mPp a r (b + j) = mPp a r b ∧ mGs a r (b + j) = mGs a r b ∧ mFe a r (b + j) = mFe a r b ∧ zPop r (b + j) = zPop r b
  | 0 => ⟨rfl, rfl, rfl, rfl, rfl⟩
  | j + 1 => by
    obtain ⟨h1, h2, h3, h4, h5⟩ := zset_hi hr j
    have e : r.testBit (b + j) = false := zbit_hi hr (by omega)
    show mLd a r (b + j + 1) = _ ∧ mPp a r (b + j + 1) = _ ∧ mGs a r (b + j + 1) = _ ∧ mFe a r (b + j + 1) = _ ∧ zPop r (b + j + 1) = _
    rw [mLd_s, mPp_s, mGs_s, mFe_s, zPop_s, e]
    exact ⟨h1, h2, h3, h4, h5⟩
/-- a set with one bid more, behind all of its own -/
theorem zset_add (hr : r < 2 ^ b) (hb : b < 12) : mLd a (2 ^ b + r) 12 = mLd a r 12 ||| zBu a b ∧ mPp a (2 ^ b + r) 12 = mPp a r 12 ||| 2 ^ zOw a b ∧ mGs a (2 ^ b + r) 12 = mGs a r 12 + zGn a b ∧ mFe a (2 ^ b + r) 12 = (mFe a r 12 && (zCn a (zOu a) b && ((mLd a r 12 &&& zBu a b == 0) && !((mPp a r 12).testBit (zOw a b))))) ∧ zPop (2 ^ b + r) 12 = zPop r 12 + 1 := by
  have hS : 2 ^ b + r < 2 ^ (b + 1) := by rw [Nat.pow_succ]; omega
  obtain ⟨h1, h2, h3, h4, h5⟩ := zset_hi (a := a) hS (12 - (b + 1))
  obtain ⟨g1, g2, g3, g4, g5⟩ := zset_hi (a := a) hr (12 - b)
  rw [show b + 1 + (12 - (b + 1)) = 12 by omega] at h1 h2 h3 h4 h5
  rw [show b + (12 - b) = 12 by omega] at g1 g2 g3 g4 g5
  obtain ⟨l1, l2, l3, l4, l5⟩ := zset_lo (a := a) hr b (Nat.le_refl b)
  have e : (2 ^ b + r).testBit b = true := by rw [zbit_top hr, if_pos rfl]
  rw [h1, h2, h3, h4, h5, g1, g2, g3, g4, g5, mLd_s, mPp_s, mGs_s, mFe_s, zPop_s, l1, l2, l3, l4, l5, e]
  exact ⟨rfl, rfl, rfl, rfl, rfl⟩
end SETS
theorem mLd_lt {a : zS} (ha : zOk a) {n : Nat} (hn : n < 2 ^ zNb a) : ∀ k, mLd a n k < 256
  | 0 => by show 0 < 256; decide
  | k + 1 => by
    have h := mLd_lt ha hn k
    unfold mLd
    split
    · next hb =>
      by_cases hk : k < zNb a
      · exact Nat.or_lt_two_pow (n := 8) h (ha.bu8 hk)
      · rw [zbit_hi hn (by omega)] at hb; cases hb
    · exact h
theorem mPp_lt {a : zS} (ha : zOk a) {n : Nat} (hn : n < 2 ^ zNb a) : ∀ k, mPp a n k < 32
  | 0 => by show 0 < 32; decide
  | k + 1 => by
    have h := mPp_lt ha hn k
    unfold mPp
    split
    · next hb =>
      by_cases hk : k < zNb a
      · have h1 := ha.ow hk
        have h2 := ha.2.1
        exact Nat.or_lt_two_pow (n := 5) h (Nat.pow_lt_pow_right (by decide) (by omega))
      · rw [zbit_hi hn (by omega)] at hb; cases hb
    · exact h
theorem mGs_bnd {a : zS} (ha : zOk a) {n : Nat} (hn : n < 2 ^ zNb a) : ∀ k : Nat, -792 * (k : Int) ≤ mGs a n k ∧ mGs a n k ≤ 999 * (k : Int)
  | 0 => by unfold mGs; omega
  | k + 1 => by
    have h := mGs_bnd ha hn k
    unfold mGs
    split
    · next hb =>
      by_cases hk : k < zNb a
      · have h1 := zGn_bnd ha hk
        omega
      · rw [zbit_hi hn (by omega)] at hb; cases hb
    · omega
theorem mGa_bnd {a : zS} (ha : zOk a) {n : Nat} (hn : n < 2 ^ zNb a) : -9504 ≤ mGa a n ∧ mGa a n ≤ 11988 := by
  have h := mGs_bnd ha hn 12
  unfold mGa
  omega
set_option maxRecDepth 100000 in
set_option maxHeartbeats 4000000 in
theorem c_X3_bit  (l : Launch) (g : zG) (w : va_W) (v k : Nat) (hk : k < 31) (hv : v < 2147483648) : zM g l yX3_bit wsX3_bit { frames := 0, cells := 0, slots := 0, locals := 0 } [.int (nI v), .int (nI k)] (w) (zPi (bI (v.testBit k)) (w)) 0 0 := by
  refine zM.of (cc := cX3_bit) (nL := 2) (ret := (some .int)) (lv := [(0, .int (nI v)), (1, .int (nI k))]) (by decide) rfl (Nat.le_of_ble_eq_true rfl) rfl ?_
  intro E C0 hi
  have C : zC g E cX3_bit RX3 wsX3_bit 2 (some .int) := C0
  refine z_iload_n C dX3_bit_0 0 rfl ?_
  refine z_iload_n C dX3_bit_1 1 rfl ?_
  refine z_ishr C dX3_bit_2 (v := nI (v / 2 ^ k)) (zshr_NN (by omega) (by omega)) ?_
  refine z_iconst C (nI 1) dX3_bit_3 (by decide) ?_
  refine z_iand C dX3_bit_4 (v := nI ((v / 2 ^ k) &&& 1)) (zand_NN (v / 2 ^ k) 1) ?_
  exact z_iretP C dX3_bit_5 zbit_ok rfl
theorem inX3_bi_X3 : ∀ w ∈ wsX30, w ∈ wsX3_bi := fun w h => List.mem_cons_of_mem _ (List.mem_append_right _ (h))
set_option maxRecDepth 100000 in
set_option maxHeartbeats 4000000 in
theorem c_X3_bi (l : Launch) (g : zG) (q : Nat → Nat) (th : Int) (a : zS) (la : Nat → Int) (pe : Nat → Nat) (ga : Nat → Int) (sz : Nat → Nat) (b w : Nat) (hb : b < 12) (hw : w < 5) : zM g l yX3_bi wsX3_bi { frames := 0, cells := 0, slots := 0, locals := 0 } [.ref (q 0), .int (nI b), .int (nI w)] (wM g q th a la pe ga sz) (zPi (nI (zRw a (5 * b + w))) (wM g q th a la pe ga sz)) 0 0 := by
  refine zM.of (cc := cX3_bi) (nL := 3) (ret := (some .int)) (lv := [(0, .ref (q 0)), (1, .int (nI b)), (2, .int (nI w))]) (by decide) rfl (Nat.le_of_ble_eq_true rfl) rfl ?_
  intro E C0 hi
  have C : zC g E cX3_bi RX3 wsX3_bi 3 (some .int) := C0
  refine z_aload_n C dX3_bi_0 0 rfl ?_
  refine z_get C inX3_bi_X3 0 wM_o rfl 6 (by decide) (C.w 1 rfl) rfl dX3_bi_1 ?_
  refine z_iconst C (nI 5) dX3_bi_4 (by decide) ?_
  refine z_iload_n C dX3_bi_5 1 rfl ?_
  refine z_imul C dX3_bi_6 (v := nI (5 * b)) (pk_mul 5 b) ?_
  refine z_iload_n C dX3_bi_7 2 rfl ?_
  refine z_iadd C dX3_bi_8 (v := nI ((5 * b) + w)) (nI_add (5 * b) w) ?_
  refine z_ialdN C 2 wM_rw (by omega) (by decide) dX3_bi_9 (v := nI (zRw a ((5 * b) + w))) rfl ?_
  exact z_iretP C dX3_bi_10 rfl rfl
theorem c_X3_bi_0 (l : Launch) (g : zG) (q : Nat → Nat) (th : Int) (a : zS) (la : Nat → Int) (pe : Nat → Nat) (ga : Nat → Int) (sz : Nat → Nat) (b : Nat) (hb : b < 12) : zM g l yX3_bi wsX3_bi { frames := 0, cells := 0, slots := 0, locals := 0 } [.ref (q 0), .int (nI b), .int (nI 0)] (wM g q th a la pe ga sz) (zPi (nI (zOw a b)) (wM g q th a la pe ga sz)) 0 0 := by
  have h := c_X3_bi l g q th a la pe ga sz b 0 hb (by decide)
  rwa [zRw_0] at h
theorem c_X3_bi_1 (l : Launch) (g : zG) (q : Nat → Nat) (th : Int) (a : zS) (la : Nat → Int) (pe : Nat → Nat) (ga : Nat → Int) (sz : Nat → Nat) (b : Nat) (hb : b < 12) : zM g l yX3_bi wsX3_bi { frames := 0, cells := 0, slots := 0, locals := 0 } [.ref (q 0), .int (nI b), .int (nI 1)] (wM g q th a la pe ga sz) (zPi (nI (zBu a b)) (wM g q th a la pe ga sz)) 0 0 := by
  have h := c_X3_bi l g q th a la pe ga sz b 1 hb (by decide)
  rwa [zRw_1] at h
theorem c_X3_bi_2 (l : Launch) (g : zG) (q : Nat → Nat) (th : Int) (a : zS) (la : Nat → Int) (pe : Nat → Nat) (ga : Nat → Int) (sz : Nat → Nat) (b : Nat) (hb : b < 12) : zM g l yX3_bi wsX3_bi { frames := 0, cells := 0, slots := 0, locals := 0 } [.ref (q 0), .int (nI b), .int (nI 2)] (wM g q th a la pe ga sz) (zPi (nI (zPr a b)) (wM g q th a la pe ga sz)) 0 0 := by
  have h := c_X3_bi l g q th a la pe ga sz b 2 hb (by decide)
  rwa [zRw_2] at h
theorem c_X3_bi_3 (l : Launch) (g : zG) (q : Nat → Nat) (th : Int) (a : zS) (la : Nat → Int) (pe : Nat → Nat) (ga : Nat → Int) (sz : Nat → Nat) (b : Nat) (hb : b < 12) : zM g l yX3_bi wsX3_bi { frames := 0, cells := 0, slots := 0, locals := 0 } [.ref (q 0), .int (nI b), .int (nI 3)] (wM g q th a la pe ga sz) (zPi (nI (zWo a b)) (wM g q th a la pe ga sz)) 0 0 := by
  have h := c_X3_bi l g q th a la pe ga sz b 3 hb (by decide)
  rwa [zRw_3] at h
theorem c_X3_bi_4 (l : Launch) (g : zG) (q : Nat → Nat) (th : Int) (a : zS) (la : Nat → Int) (pe : Nat → Nat) (ga : Nat → Int) (sz : Nat → Nat) (b : Nat) (hb : b < 12) : zM g l yX3_bi wsX3_bi { frames := 0, cells := 0, slots := 0, locals := 0 } [.ref (q 0), .int (nI b), .int (nI 4)] (wM g q th a la pe ga sz) (zPi (nI (zGo a b)) (wM g q th a la pe ga sz)) 0 0 := by
  have h := c_X3_bi l g q th a la pe ga sz b 4 hb (by decide)
  rwa [zRw_4] at h
theorem inX3_reserveOf_X3 : ∀ w ∈ wsX30, w ∈ wsX3_reserveOf := fun w h => List.mem_cons_of_mem _ (List.mem_append_right _ (h))
set_option maxRecDepth 100000 in
set_option maxHeartbeats 4000000 in
theorem c_X3_reserveOf (l : Launch) (g : zG) (q : Nat → Nat) (th : Int) (a : zS) (la : Nat → Int) (pe : Nat → Nat) (ga : Nat → Int) (sz : Nat → Nat) (ha : zOk a) (m : Nat) (hm : m < 256) : zM g l yX3_reserveOf wsX3_reserveOf { frames := 1, cells := 0, slots := 0, locals := 21 } [.ref (q 0), .int (nI m)] (wM g q th a la pe ga sz) (zPi (nI (zRes a m)) (wM g q th a la pe ga sz)) 0 0 := by
  refine zM.of (cc := cX3_reserveOf) (nL := 4) (ret := (some .int)) (lv := [(0, .ref (q 0)), (1, .int (nI m))]) (by decide) rfl (Nat.le_of_ble_eq_true rfl) rfl ?_
  intro E C0 hi
  have C : zC g E cX3_reserveOf RX3 wsX3_reserveOf 4 (some .int) := C0
  obtain ⟨hnf, hnd, hnb, hou, hrs, hbd⟩ := id ha
  refine z_iconst C (nI 0) dX3_reserveOf_0 (by decide) ?_
  refine z_istore_n C dX3_reserveOf_1 (by decide) [(2, .int (nI 0)), (0, .ref (q 0)), (1, .int (nI m))] rfl ?_
  refine z_iconst C (nI 0) dX3_reserveOf_2 (by decide) ?_
  refine z_istore_n C dX3_reserveOf_3 (by decide) [(3, .int (nI 0)), (2, .int (nI 0)), (0, .ref (q 0)), (1, .int (nI m))] rfl ?_
  refine zW.pick (lv' := [(0, .ref (q 0)), (1, .int (nI m)), (2, .int (nI 0)), (3, .int (nI 0))]) [2, 3, 1, 0] rfl ?_
  have hlp4 : ∀ (k i : Nat), i + k = zNf a → zW g l ({ frames := 1, cells := 0, slots := 0, locals := 21 }) E (zMQ g E (zPi (nI (zRes a m)) (wM g q th a la pe ga sz)) 0 0) 4 0 0 (wM g q th a la pe ga sz) [(0, .ref (q 0)), (1, .int (nI m)), (2, .int (nI (zSum (fun f => if m.testBit f = true then zRs a f else 0) i))), (3, .int (nI i))] [] 4 := by
    intro k
    induction k with
    | zero =>
      intro i hik
      refine z_iload_n C dX3_reserveOf_4 3 rfl ?_
      refine z_aload_n C dX3_reserveOf_5 0 rfl ?_
      refine z_get C inX3_reserveOf_X3 0 wM_o rfl 1 (by decide) (C.w 1 rfl) rfl dX3_reserveOf_6 ?_
      refine z_icmp_ge C 33 dX3_reserveOf_9 (by decide) (zle_NN (by omega) (by omega)) (fun c_9 => ?_) (fun h9 => absurd (by omega) h9)
      refine z_iload_n C dX3_reserveOf_33 2 rfl ?_
      exact z_iretP C dX3_reserveOf_34 (by rw [show i = zNf a by omega]; rfl) rfl
    | succ k ih4 =>
      intro i hik
      refine z_iload_n C dX3_reserveOf_4 3 rfl ?_
      refine z_aload_n C dX3_reserveOf_5 0 rfl ?_
      refine z_get C inX3_reserveOf_X3 0 wM_o rfl 1 (by decide) (C.w 1 rfl) rfl dX3_reserveOf_6 ?_
      refine z_icmp_ge C 33 dX3_reserveOf_9 (by decide) (zle_NN (by omega) (by omega)) (fun h9 => absurd h9 (by omega)) (fun c_9 => ?_)
      refine z_iload_n C dX3_reserveOf_12 2 rfl ?_
      refine z_iload_n C dX3_reserveOf_13 1 rfl ?_
      refine z_iload_n C dX3_reserveOf_14 3 rfl ?_
      refine z_callS C (c_X3_bit l g (wM g q th a la pe ga sz) m i (by omega) (by omega)) (va_cwS 2 C.ts gX3_reserveOf_X3_bit rfl rfl rfl (by decide +kernel) ⟨Nat.le_of_ble_eq_true rfl, Nat.le_of_ble_eq_true rfl⟩) rfl rfl (Nat.le_of_ble_eq_true rfl) dX3_reserveOf_15 ⟨Nat.zero_le _, Nat.zero_le _⟩ (z_i ?_)
      refine z_aload_n C dX3_reserveOf_18 0 rfl ?_
      refine z_get C inX3_reserveOf_X3 0 wM_o rfl 5 (by decide) (C.w 2 rfl) rfl dX3_reserveOf_19 ?_
      refine z_iload_n C dX3_reserveOf_22 3 rfl ?_
      refine z_ialdN C 1 wM_rs (by omega) (by decide) dX3_reserveOf_23 (v := nI (zRs a i)) rfl ?_
      have f_23b := (ha.rs (f := i) (by omega))
      refine z_imul C dX3_reserveOf_24 (v := nI (if m.testBit i = true then zRs a i else 0)) (zB_mul _ _) ?_
      refine z_iadd C dX3_reserveOf_25 (v := nI ((zSum (fun f => if m.testBit f = true then zRs a f else 0) i) + (if m.testBit i = true then zRs a i else 0))) (nI_add (zSum (fun f => if m.testBit f = true then zRs a f else 0) i) (if m.testBit i = true then zRs a i else 0)) ?_
      refine z_istore_n C dX3_reserveOf_26 (by decide) [(2, .int (nI ((zSum (fun f => if m.testBit f = true then zRs a f else 0) i) + (if m.testBit i = true then zRs a i else 0)))), (0, .ref (q 0)), (1, .int (nI m)), (3, .int (nI i))] rfl ?_
      refine z_iinc C dX3_reserveOf_27 3 (nI (i + 1)) rfl (nI_add i 1) (by decide) [(3, .int (nI (i + 1))), (2, .int (nI ((zSum (fun f => if m.testBit f = true then zRs a f else 0) i) + (if m.testBit i = true then zRs a i else 0)))), (0, .ref (q 0)), (1, .int (nI m))] rfl ?_
      refine z_goto C 4 dX3_reserveOf_30 (by decide) ?_
      refine zW.pick (lv' := [(0, .ref (q 0)), (1, .int (nI m)), (2, .int (nI ((zSum (fun f => if m.testBit f = true then zRs a f else 0) i) + (if m.testBit i = true then zRs a i else 0)))), (3, .int (nI (i + 1)))]) [2, 3, 1, 0] rfl ?_
      refine zW.lve (lv' := [(0, .ref (q 0)), (1, .int (nI m)), (2, .int (nI (zSum (fun f => if m.testBit f = true then zRs a f else 0) (i + 1)))), (3, .int (nI (i + 1)))]) (rfl) ?_
      exact ih4 (i + 1) (by omega)
  exact hlp4 (zNf a) 0 (by omega)
set_option maxRecDepth 100000 in
set_option maxHeartbeats 4000000 in
theorem c_X3_gain (l : Launch) (g : zG) (q : Nat → Nat) (th : Int) (a : zS) (la : Nat → Int) (pe : Nat → Nat) (ga : Nat → Int) (sz : Nat → Nat) (ha : zOk a) (b : Nat) (hb : b < zNb a) : zM g l yX3_gain wsX3_gain { frames := 2, cells := 0, slots := 0, locals := 44 } [.ref (q 0), .int (nI b)] (wM g q th a la pe ga sz) (zPi (iZ (zGn a b)) (wM g q th a la pe ga sz)) 0 0 := by
  refine zM.of (cc := cX3_gain) (nL := 2) (ret := (some .int)) (lv := [(0, .ref (q 0)), (1, .int (nI b))]) (by decide) rfl (Nat.le_of_ble_eq_true rfl) rfl ?_
  intro E C0 hi
  have C : zC g E cX3_gain RX3 wsX3_gain 2 (some .int) := C0
  obtain ⟨hnf, hnd, hnb, hou, hrs, hbd⟩ := id ha
  refine z_aload_n C dX3_gain_0 0 rfl ?_
  refine z_iload_n C dX3_gain_1 1 rfl ?_
  refine z_iconst C (nI 2) dX3_gain_2 (by decide) ?_
  refine z_callV C (c_X3_bi_2 l g q th a la pe ga sz b (by omega)) (cwV 2 C.ts gX3_gain_X3_bi rfl rfl rfl (by decide +kernel) ⟨Nat.le_of_ble_eq_true rfl, Nat.le_of_ble_eq_true rfl⟩) wM_o rfl rfl rfl (Nat.le_of_ble_eq_true rfl) dX3_gain_3 ⟨Nat.zero_le _, Nat.zero_le _⟩ (z_i ?_)
  have f_3 := ha.pr (b := b) (by omega)
  refine z_aload_n C dX3_gain_6 0 rfl ?_
  refine z_aload_n C dX3_gain_7 0 rfl ?_
  refine z_iload_n C dX3_gain_8 1 rfl ?_
  refine z_iconst C (nI 1) dX3_gain_9 (by decide) ?_
  refine z_callV C (c_X3_bi_1 l g q th a la pe ga sz b (by omega)) (cwV 2 C.ts gX3_gain_X3_bi rfl rfl rfl (by decide +kernel) ⟨Nat.le_of_ble_eq_true rfl, Nat.le_of_ble_eq_true rfl⟩) wM_o rfl rfl rfl (Nat.le_of_ble_eq_true rfl) dX3_gain_10 ⟨Nat.zero_le _, Nat.zero_le _⟩ (z_i ?_)
  have f_10 := ha.bu8 (b := b) (by omega)
  refine z_callV C (c_X3_reserveOf l g q th a la pe ga sz ha (zBu a b) (by omega)) (cwV 1 C.ts gX3_gain_X3_reserveOf rfl rfl rfl (by decide +kernel) ⟨Nat.le_of_ble_eq_true rfl, Nat.le_of_ble_eq_true rfl⟩) wM_o rfl rfl rfl (Nat.le_of_ble_eq_true rfl) dX3_gain_13 ⟨Nat.zero_le _, Nat.zero_le _⟩ (z_i ?_)
  refine z_isub C dX3_gain_16 (v := iZ (((zPr a b : Nat) : Int) - ((zRes a (zBu a b) : Nat) : Int))) (iZ_sub ((zPr a b : Nat) : Int) ((zRes a (zBu a b) : Nat) : Int)) ?_
  exact z_iretP C dX3_gain_17 rfl rfl
theorem inX3_isCounted_X3 : ∀ w ∈ wsX30, w ∈ wsX3_isCounted := fun w h => List.mem_cons_of_mem _ (List.mem_append_right _ (h))
set_option maxRecDepth 100000 in
set_option maxHeartbeats 4000000 in
theorem c_X3_isCounted (l : Launch) (g : zG) (q : Nat → Nat) (th : Int) (a : zS) (la : Nat → Int) (pe : Nat → Nat) (ga : Nat → Int) (sz : Nat → Nat) (ha : zOk a) (b : Nat) (hb : b < zNb a) : zM g l yX3_isCounted wsX3_isCounted { frames := 3, cells := 0, slots := 0, locals := 65 } [.ref (q 0), .int (nI b)] (wM g q th a la pe ga sz) (zPi (bI (zCn a (zOu a) b)) (wM g q th a la pe ga sz)) 0 0 := by
  refine zM.of (cc := cX3_isCounted) (nL := 2) (ret := (some .boolean)) (lv := [(0, .ref (q 0)), (1, .int (nI b))]) (by decide) rfl (Nat.le_of_ble_eq_true rfl) rfl ?_
  intro E C0 hi
  have C : zC g E cX3_isCounted RX3 wsX3_isCounted 2 (some .boolean) := C0
  obtain ⟨hnf, hnd, hnb, hou, hrs, hbd⟩ := id ha
  have ho32 : 2 ^ zNd a ≤ 2 ^ 5 := zp2_le hnd
  refine z_aload_n C dX3_isCounted_0 0 rfl ?_
  refine z_iload_n C dX3_isCounted_1 1 rfl ?_
  refine z_iconst C (nI 4) dX3_isCounted_2 (by decide) ?_
  refine z_callV C (c_X3_bi_4 l g q th a la pe ga sz b (by omega)) (cwV 2 C.ts gX3_isCounted_X3_bi rfl rfl rfl (by decide +kernel) ⟨Nat.le_of_ble_eq_true rfl, Nat.le_of_ble_eq_true rfl⟩) wM_o rfl rfl rfl (Nat.le_of_ble_eq_true rfl) dX3_isCounted_3 ⟨Nat.zero_le _, Nat.zero_le _⟩ (z_i ?_)
  have f_3 := ha.go (b := b) (by omega)
  refine z_if_ne C 37 dX3_isCounted_6 (by decide) (zeq_N0 (by omega)) (fun c_6 => ?_) (fun c_6 => ?_)
  · skip
    refine z_iconst C (nI 0) dX3_isCounted_37 (by decide) ?_
    exact z_zretP C dX3_isCounted_38 (by simp_all [bI, zn0, zn1, zCn]) rfl
  · skip
    refine z_aload_n C dX3_isCounted_9 0 rfl ?_
    refine z_get C inX3_isCounted_X3 0 wM_o rfl 4 (by decide) (C.w 1 rfl) rfl dX3_isCounted_10 ?_
    refine z_aload_n C dX3_isCounted_13 0 rfl ?_
    refine z_iload_n C dX3_isCounted_14 1 rfl ?_
    refine z_iconst C (nI 0) dX3_isCounted_15 (by decide) ?_
    refine z_callV C (c_X3_bi_0 l g q th a la pe ga sz b (by omega)) (cwV 2 C.ts gX3_isCounted_X3_bi rfl rfl rfl (by decide +kernel) ⟨Nat.le_of_ble_eq_true rfl, Nat.le_of_ble_eq_true rfl⟩) wM_o rfl rfl rfl (Nat.le_of_ble_eq_true rfl) dX3_isCounted_16 ⟨Nat.zero_le _, Nat.zero_le _⟩ (z_i ?_)
    have f_16 := ha.ow (b := b) (by omega)
    refine z_callS C (c_X3_bit l g (wM g q th a la pe ga sz) (zOu a) (zOw a b) (by omega) (by omega)) (va_cwS 2 C.ts gX3_isCounted_X3_bit rfl rfl rfl (by decide +kernel) ⟨Nat.le_of_ble_eq_true rfl, Nat.le_of_ble_eq_true rfl⟩) rfl rfl (Nat.le_of_ble_eq_true rfl) dX3_isCounted_19 ⟨Nat.zero_le _, Nat.zero_le _⟩ (z_i ?_)
    refine z_if_ne C 37 dX3_isCounted_22 (by decide) (zeq_B0 _) (fun c_22 => ?_) (fun c_22 => ?_)
    · skip
      refine z_iconst C (nI 0) dX3_isCounted_37 (by decide) ?_
      exact z_zretP C dX3_isCounted_38 (by simp_all [bI, zn0, zn1, zCn]) rfl
    · skip
      refine z_aload_n C dX3_isCounted_25 0 rfl ?_
      refine z_iload_n C dX3_isCounted_26 1 rfl ?_
      refine z_callV C (c_X3_gain l g q th a la pe ga sz ha b (by omega)) (cwV 1 C.ts gX3_isCounted_X3_gain rfl rfl rfl (by decide +kernel) ⟨Nat.le_of_ble_eq_true rfl, Nat.le_of_ble_eq_true rfl⟩) wM_o rfl rfl rfl (Nat.le_of_ble_eq_true rfl) dX3_isCounted_27 ⟨Nat.zero_le _, Nat.zero_le _⟩ (z_i ?_)
      have f_27 := zGn_bnd ha (b := b) (by omega)
      refine z_if_lt C 37 dX3_isCounted_30 (by decide) (zlt_Z0 (by unfold zB31; omega)) (fun c_30 => ?_) (fun c_30 => ?_)
      · skip
        refine z_iconst C (nI 0) dX3_isCounted_37 (by decide) ?_
        exact z_zretP C dX3_isCounted_38 (by simp_all [bI, zn0, zn1, zCn]) rfl
      · skip
        refine z_iconst C (nI 1) dX3_isCounted_33 (by decide) ?_
        refine z_goto C 38 dX3_isCounted_34 (by decide) ?_
        exact z_zretP C dX3_isCounted_38 (by simp_all [bI, zn0, zn1, zCn]) rfl
