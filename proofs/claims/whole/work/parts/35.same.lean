/-! the reference's answers are the class's -/
theorem mPp_has {a : zS} {n b : Nat} (hb : n.testBit b = true) : ∀ k, b < k → (mPp a n k).testBit (zOw a b) = true
  | 0, h => absurd h (by omega)
  | k + 1, h => by
    rw [mPp_s]
    by_cases e : b = k
    · subst e
      rw [if_pos hb, Nat.testBit_or, Nat.testBit_two_pow_self, Bool.or_true]
    · have h1 := mPp_has (a := a) hb k (by omega)
      split
      · rw [Nat.testBit_or, h1, Bool.true_or]
      · exact h1
/-- of a set that can win, each bidder has one bid at most -/
theorem mFe_one {a : zS} {n : Nat} (h : mFe a n 12 = true) {b c : Nat} (hb : n.testBit b = true) (hc : n.testBit c = true) (hbc : b < c) (hc2 : c < 12) : zOw a b ≠ zOw a c := by
  intro e
  have h1 : mFe a n (c + 1) = true := mFe_pre a n (12 - (c + 1)) (c + 1) (by rw [show c + 1 + (12 - (c + 1)) = 12 by omega]; exact h)
  rw [mFe_s, if_pos hc] at h1
  simp only [Bool.and_eq_true, Bool.not_eq_true'] at h1
  have h2 := mPp_has (a := a) hb c hbc
  rw [e, h1.2.2.2] at h2
  cases h2
theorem zFst_spec (p : Nat → Bool) : ∀ (k i : Nat), (zFst p i k = -1 ∧ ∀ c, i ≤ c → c < i + k → p c = false) ∨ ∃ c, i ≤ c ∧ c < i + k ∧ zFst p i k = (c : Int) ∧ p c = true
  | 0, i => Or.inl ⟨rfl, fun c h1 h2 => absurd h2 (by omega)⟩
  | k + 1, i => by
    unfold zFst
    by_cases h : p i = true
    · rw [if_pos h]; exact Or.inr ⟨i, Nat.le_refl i, by omega, rfl, h⟩
    · rw [if_neg h]
      rcases zFst_spec p k (i + 1) with ⟨e, h1⟩ | ⟨c, h1, h2, h3, h4⟩
      · refine Or.inl ⟨e, fun c g1 g2 => ?_⟩
        by_cases hc : c = i
        · rw [hc]; simpa using h
        · exact h1 c (by omega) (by omega)
      · exact Or.inr ⟨c, by omega, by omega, h3, h4⟩
theorem zLw_spec (a : zS) (m e : Nat) : ∀ n, (zLw a m n e = -1 ∧ ∀ c, c < n → ¬ (m.testBit c = true ∧ zOw a c = e)) ∨ ∃ c, c < n ∧ zLw a m n e = (c : Int) ∧ m.testBit c = true ∧ zOw a c = e
  | 0 => Or.inl ⟨rfl, fun c h => absurd h (by omega)⟩
  | n + 1 => by
    unfold zLw
    by_cases h : m.testBit n = true ∧ zOw a n = e
    · rw [if_pos h]; exact Or.inr ⟨n, by omega, rfl, h⟩
    · rw [if_neg h]
      rcases zLw_spec a m e n with ⟨g, h1⟩ | ⟨c, h1, h2⟩
      · refine Or.inl ⟨g, fun c g1 => ?_⟩
        by_cases hc : c = n
        · rw [hc]; exact h
        · exact h1 c (by omega)
      · exact Or.inr ⟨c, by omega, h2⟩
def mBo (a : zS) (d : Nat) : Int := zFst (fun b => (mBest a).testBit b && decide (zOw a b = d)) 0 (zNb a)
theorem mBest_fe (a : zS) : mFe a (mBest a) 12 = true := (mBU_max a _ (Nat.two_pow_pos _)).1
theorem mBo_eq {a : zS} (ha : zOk a) (d : Nat) : mBo a d = zLw a (mBest a) (zNb a) d := by
  have hf := mBest_fe a
  have hnb := ha.2.2.1
  unfold mBo
  rcases zFst_spec (fun b => (mBest a).testBit b && decide (zOw a b = d)) (zNb a) 0 with ⟨e1, h1⟩ | ⟨c, -, h1, e1, h2⟩ <;> rcases zLw_spec a (mBest a) d (zNb a) with ⟨e2, g1⟩ | ⟨c2, g1, e2, g2⟩
  · rw [e1, e2]
  · have h9 := h1 c2 (Nat.zero_le _) (by omega)
    simp [g2.1, g2.2] at h9
  · simp only [Bool.and_eq_true, decide_eq_true_eq] at h2
    exact absurd h2 (g1 c (by omega))
  · simp only [Bool.and_eq_true, decide_eq_true_eq] at h2
    rw [e1, e2]
    by_cases hc : c = c2
    · rw [hc]
    · exfalso
      rcases Nat.lt_or_gt_of_ne hc with q | q
      · exact mFe_one hf h2.1 g2.1 q (by omega) (h2.2.trans g2.2.symm)
      · exact mFe_one hf g2.1 h2.1 q (by omega) (g2.2.trans h2.2.symm)
theorem mBo_win {a : zS} (ha : zOk a) (d : Nat) : mBo a d = aWin a d := by
  rw [mBo_eq ha]
  unfold aWin
  rw [zFw_0 ha]
def mWo (a : zS) (d : Nat) : Int := mGa a (mBest (zSetOu a (zOu a ||| 2 ^ d)))
theorem mWo_eq {a : zS} (ha : zOk a) {d : Nat} (hd : d < zNd a) : zGw a 0 d = mWo a d := by
  unfold zGw mWo
  rw [if_pos hd, zFw_best ha, Nat.zero_or]
theorem zLp_of (a : zS) (ab e : Nat) : ∀ n, zLp a ab n e = if zLw a (zFw a ab).2 n e = -1 then 0 else (zRes a (zBu a (zLw a (zFw a ab).2 n e).toNat) : Int) + zGw a ab e - ((zFw a ab).1 - zGn a (zLw a (zFw a ab).2 n e).toNat)
  | 0 => rfl
  | n + 1 => by
    unfold zLp zLw
    split
    · rw [if_neg (by omega)]; rfl
    · exact zLp_of a ab e n
def mPaid (a : zS) (d : Nat) : Int := if mBo a d = -1 then 0 else (zRes a (zBu a (mBo a d).toNat) : Int) + mWo a d - (mGa a (mBest a) - zGn a (mBo a d).toNat)
theorem mPaid_eq {a : zS} (ha : zOk a) {d : Nat} (hd : d < zNd a) : mPaid a d = aPaid a d := by
  unfold mPaid aPaid
  rw [zLp_of, mWo_eq ha hd, mBo_win ha]
  unfold aWin
  rw [zFw_0 ha]
theorem zOk_out {a : zS} (h : zOk a) {d : Nat} (hd : d < zNd a) : zOk (zSetOu a (zOu a ||| 2 ^ d)) := by
  obtain ⟨h1, h2, h3, h4, h5, h6⟩ := h
  refine ⟨h1, h2, h3, ?_, h5, h6⟩
  exact Nat.or_lt_two_pow h4 (Nat.pow_lt_pow_right (by decide) hd)
theorem zFw_ab {a : zS} (ha : zOk a) {d : Nat} (hd : d < zNd a) (ab : Nat) : zFw a (2 ^ d ||| ab) = zFw (zSetOu a (zOu a ||| 2 ^ d)) ab := by
  rw [zFw_best ha, zFw_best (zOk_out ha hd)]
  show _ = (mGa (zSetOu a (zOu a ||| 2 ^ d)) (mBest (zSetOu (zSetOu a (zOu a ||| 2 ^ d)) (zOu a ||| 2 ^ d ||| ab))), mBest (zSetOu (zSetOu a (zOu a ||| 2 ^ d)) (zOu a ||| 2 ^ d ||| ab)))
  rw [Nat.or_assoc]
  show _ = (mGa (zSetOu a (zOu a ||| 2 ^ d)) (mBest (zSetOu a (zOu a ||| (2 ^ d ||| ab)))), _)
  rw [show mGa (zSetOu a (zOu a ||| 2 ^ d)) (mBest (zSetOu a (zOu a ||| (2 ^ d ||| ab)))) = mGa a _ from (mset_ou a _ _ 12).2.2]
  rfl
theorem zFw_ab0 {a : zS} (ha : zOk a) {d : Nat} (hd : d < zNd a) : zFw a (2 ^ d) = zFw (zSetOu a (zOu a ||| 2 ^ d)) 0 := by
  have h := zFw_ab ha hd 0
  rwa [Nat.or_zero] at h
theorem zLp_ab {a : zS} (ha : zOk a) {d : Nat} (hd : d < zNd a) (e : Nat) : zLp a (2 ^ d) (zNb a) e = aPaid (zSetOu a (zOu a ||| 2 ^ d)) e := by
  unfold aPaid
  rw [zLp_of, zLp_of]
  show (if zLw a (zFw a (2 ^ d)).2 (zNb a) e = -1 then 0 else _) = if zLw (zSetOu a (zOu a ||| 2 ^ d)) (zFw (zSetOu a (zOu a ||| 2 ^ d)) 0).2 (zNb a) e = -1 then 0 else (zRes a (zBu a (zLw (zSetOu a (zOu a ||| 2 ^ d)) (zFw (zSetOu a (zOu a ||| 2 ^ d)) 0).2 (zNb a) e).toNat) : Int) + _ - (_ - zGn a (zLw (zSetOu a (zOu a ||| 2 ^ d)) (zFw (zSetOu a (zOu a ||| 2 ^ d)) 0).2 (zNb a) e).toNat)
  rw [zFw_ab0 ha hd, zLw_cong (a := zSetOu a (zOu a ||| 2 ^ d)) (a' := a) _ (fun _ _ => rfl)]
  have hg : zGw a (2 ^ d) e = zGw (zSetOu a (zOu a ||| 2 ^ d)) 0 e := by
    unfold zGw
    rw [zFw_ab ha hd, Nat.zero_or]
    rfl
  rw [hg]
/-- who has no bid pays nothing -/
theorem aPaid_0 {a : zS} (ha : zOk a) {d : Nat} (hd : zNd a ≤ d) : aPaid a d = 0 := by
  unfold aPaid
  rw [zLp_of]
  rcases zLw_spec a (zFw a 0).2 d (zNb a) with ⟨e, -⟩ | ⟨c, h1, -, h3⟩
  · rw [if_pos e]
  · have := ha.ow h1; omega
theorem zSi_tail {f : Nat → Int} {n : Nat} : ∀ j, (∀ i, n ≤ i → f i = 0) → zSi f (n + j) = zSi f n
  | 0, _ => rfl
  | j + 1, h => by
    show zSi f (n + j) + f (n + j) = _
    rw [zSi_tail j h, h (n + j) (by omega)]
    omega
theorem aPaid_all {a : zS} (ha : zOk a) : zSi (aPaid a) 5 = zSi (aPaid a) (zNd a) := by
  have h1 := ha.2.1
  have h := zSi_tail (f := aPaid a) (n := zNd a) (5 - zNd a) (fun i hi => aPaid_0 ha hi)
  rwa [show zNd a + (5 - zNd a) = 5 by omega] at h
theorem aPs_eq {a : zS} (ha : zOk a) {d : Nat} (hd : d < zNd a) : aPs a d = zSi (aPaid (zSetOu a (zOu a ||| 2 ^ d))) (zNd a) := by
  unfold aPs
  rw [zSi_cong 5 (f' := aPaid (zSetOu a (zOu a ||| 2 ^ d))) (fun e _ => zLp_ab ha hd e), aPaid_all (zOk_out ha hd)]
  rfl
-- the fields that are sold
theorem zOrs_bit (f : Nat → Nat) (k : Nat) : ∀ n, (zOrs f n).testBit k = true ↔ ∃ b, b < n ∧ (f b).testBit k = true
  | 0 => by simp [zOrs]
  | n + 1 => by
    unfold zOrs
    rw [Nat.testBit_or, Bool.or_eq_true, zOrs_bit f k n]
    constructor
    · rintro (⟨b, h1, h2⟩ | h)
      · exact ⟨b, by omega, h2⟩
      · exact ⟨n, by omega, h⟩
    · rintro ⟨b, h1, h2⟩
      by_cases e : b = n
      · subst e; exact Or.inr h2
      · exact Or.inl ⟨b, by omega, h2⟩
theorem aWf_sold (a : zS) (f : Nat) : aWf a f = -1 ↔ (aSold a).testBit f = false := by
  have h := zOrs_bit (fun b => if (zFw a 0).2.testBit b = true then zBu a b else 0) f (zNb a)
  unfold aWf aSold
  rcases zFst_spec (fun b => (zFw a 0).2.testBit b && (zBu a b).testBit f) (zNb a) 0 with ⟨e1, h1⟩ | ⟨c, -, h1, e1, h2⟩
  · rw [e1]
    refine ⟨fun _ => ?_, fun _ => rfl⟩
    rw [← Bool.not_eq_true, h]
    rintro ⟨b, g1, g2⟩
    have g3 := h1 b (Nat.zero_le _) (by omega)
    by_cases hb : (zFw a 0).2.testBit b = true
    · rw [if_pos hb] at g2
      simp [hb, g2] at g3
    · rw [if_neg hb] at g2
      simp at g2
  · rw [e1]
    refine ⟨fun h9 => absurd h9 (by omega), fun h9 => ?_⟩
    simp only [Bool.and_eq_true] at h2
    rw [← Bool.not_eq_true, h] at h9
    exact absurd ⟨c, by omega, by rw [if_pos h2.1]; exact h2.2⟩ h9
theorem zPop_tail {x n : Nat} : ∀ j, (∀ i, n ≤ i → x.testBit i = false) → zPop x (n + j) = zPop x n
  | 0, _ => rfl
  | j + 1, h => by
    show zPop x (n + j + 1) = _
    rw [zPop_s, zPop_tail j h, h (n + j) (by omega)]
    rfl
theorem aSold_nf {a : zS} (ha : zOk a) : aSold a < 2 ^ zNf a := by
  refine zOrs_lt _ (fun i hi => ?_)
  show (if _ then _ else _) < _
  split
  · exact ha.bu hi
  · exact Nat.two_pow_pos _
def mSoldN (a : zS) : Nat → Nat
  | 0 => 0
  | n + 1 => mSoldN a n + (if aWf a n = -1 then 0 else 1)
theorem mSold_pop (a : zS) : ∀ n, mSoldN a n = zPop (aSold a) n
  | 0 => rfl
  | n + 1 => by
    unfold mSoldN
    rw [zPop_s, mSold_pop a n]
    by_cases h : aWf a n = -1
    · rw [if_pos h, (aWf_sold a n).mp h]; rfl
    · have h2 : (aSold a).testBit n = true := eq_true_of_ne_false (fun q => h ((aWf_sold a n).mpr q))
      rw [if_neg h, h2]; rfl
theorem mSold_eq {a : zS} (ha : zOk a) : mSoldN a (zNf a) = zPop (aSold a) 12 := by
  have hnf := ha.1
  have h := zPop_tail (x := aSold a) (n := zNf a) (12 - zNf a) (fun i hi => zbit_hi (aSold_nf ha) hi)
  rw [show zNf a + (12 - zNf a) = 12 by omega] at h
  rw [mSold_pop, h]
-- bids that are not withdrawn
theorem zCnt_cong {p p' : Nat → Bool} : ∀ n, (∀ i, i < n → p i = p' i) → zCnt p n = zCnt p' n
  | 0, _ => rfl
  | n + 1, h => by
    unfold zCnt
    rw [zCnt_cong n (fun i hi => h i (by omega)), h n (by omega)]
theorem zSum_add (f h : Nat → Nat) : ∀ n, zSum (fun i => f i + h i) n = zSum f n + zSum h n
  | 0 => rfl
  | n + 1 => by
    unfold zSum
    rw [zSum_add f h n]
    omega
theorem zSum_one (o : Nat) : ∀ n, zSum (fun d => if o = d then 1 else 0) n = if o < n then 1 else 0
  | 0 => by simp [zSum]
  | n + 1 => by
    unfold zSum
    rw [zSum_one o n]
    by_cases h : o < n
    · rw [if_pos h, if_neg (by omega), if_pos (by omega)]
    · rw [if_neg h]
      by_cases h2 : o = n
      · rw [if_pos h2, if_pos (by omega)]
      · rw [if_neg h2, if_neg (by omega)]
theorem zSum_0 : ∀ n, zSum (fun _ => 0) n = 0
  | 0 => rfl
  | n + 1 => by
    unfold zSum
    rw [zSum_0 n]
theorem zLof_all (a : zS) : ∀ n, (∀ b, b < n → zOw a b < zNd a) → zSum (fun d => zCnt (fun b => decide (zOw a b = d) && zGo a b == 0) n) (zNd a) = zCnt (fun b => zGo a b == 0) n
  | 0, _ => zSum_0 _
  | n + 1, h => by
    have h1 := zLof_all a n (fun b hb => h b (by omega))
    have e : (fun d => zCnt (fun b => decide (zOw a b = d) && zGo a b == 0) (n + 1)) = fun d => zCnt (fun b => decide (zOw a b = d) && zGo a b == 0) n + (if (decide (zOw a n = d) && zGo a n == 0) = true then 1 else 0) := rfl
    rw [e, zSum_add, h1]
    show _ = zCnt (fun b => zGo a b == 0) n + (if (zGo a n == 0) = true then 1 else 0)
    by_cases hg : (zGo a n == 0) = true
    · rw [if_pos hg]
      congr 1
      have e2 : (fun d => if (decide (zOw a n = d) && zGo a n == 0) = true then 1 else 0) = fun d => if zOw a n = d then 1 else 0 := by
        funext d
        rw [hg]
        by_cases hd : zOw a n = d <;> simp [hd]
      rw [e2, zSum_one, if_pos (h n (by omega))]
    · rw [if_neg hg]
      have e2 : (fun d => if (decide (zOw a n = d) && zGo a n == 0) = true then 1 else 0) = fun _ => 0 := by
        funext d
        rw [if_neg (by simp [hg])]
      rw [e2, zSum_0]
/-- how many bids are left, counted as the reference does -/
def mLeft (a : zS) : Nat → Nat
  | 0 => 0
  | n + 1 => mLeft a n + (1 - zGo a n)
theorem mLeft_cnt {a : zS} : ∀ n, (∀ b, b < n → zGo a b ≤ 1) → mLeft a n = zCnt (fun b => zGo a b == 0) n
  | 0, _ => rfl
  | n + 1, h => by
    unfold mLeft zCnt
    rw [mLeft_cnt n (fun b hb => h b (by omega))]
    have h1 := h n (by omega)
    rcases Nat.eq_zero_or_pos (zGo a n) with e | e
    · rw [e]; rfl
    · rw [show zGo a n = 1 by omega]; rfl
theorem mLeft_eq {a : zS} (ha : zOk a) : mLeft a (zNb a) = zSum (zLof a) (zNd a) := by
  rw [mLeft_cnt _ (fun b hb => ha.go hb)]
  exact (zLof_all a _ (fun b hb => ha.ow hb)).symm
-- one field alone
theorem zRes_one {a : zS} {f : Nat} (hf : f < zNf a) : zRes a (2 ^ f) = zRs a f := by
  unfold zRes
  have h : ∀ n, zSum (fun i => if (2 ^ f).testBit i = true then zRs a i else 0) n = if f < n then zRs a f else 0 := by
    intro n
    induction n with
    | zero => rfl
    | succ n ih =>
      unfold zSum
      rw [ih, Nat.testBit_two_pow]
      by_cases h : f < n
      · rw [if_pos h, if_neg (by simp; omega), if_pos (by omega)]; omega
      · rw [if_neg h]
        by_cases h2 : f = n
        · subst h2; simp
        · rw [if_neg (by simp; omega), if_neg (by omega)]
  rw [h, if_pos hf]
theorem zCo_ge {a : zS} {f b : Nat} {lo : Int} (hf : f < zNf a) (h : zCo a f lo b = true) : zRs a f ≤ zPr a b := by
  unfold zCo at h
  simp only [Bool.and_eq_true, decide_eq_true_eq] at h
  have h1 := zCn_ge h.1
  unfold zGn at h1
  rw [h.2.1, zRes_one hf] at h1
  omega
/-- the highest price of those who compete, at least the reserve -/
def mMx (a : zS) (f : Nat) (p : Nat → Bool) : Nat → Nat
  | 0 => zRs a f
  | n + 1 => if p n = true then max (mMx a f p n) (zPr a n) else mMx a f p n
theorem mMx_eq {a : zS} {f : Nat} {p : Nat → Bool} (hp : ∀ b, p b = true → zRs a f ≤ zPr a b) : ∀ n, (mMx a f p n : Int) = if zHi a p n = -1 then (zRs a f : Int) else (zPr a (zHi a p n).toNat : Int)
  | 0 => rfl
  | n + 1 => by
    have ih := mMx_eq hp n
    have hM : mMx a f p (n + 1) = if p n = true then max (mMx a f p n) (zPr a n) else mMx a f p n := rfl
    rw [hM]
    by_cases hpn : p n = true
    · rw [if_pos hpn]
      have h1 := hp n hpn
      rcases zHi_or a p n with e | ⟨c, hc, e, hpc⟩
      · have hz : zHi a p (n + 1) = (n : Int) := if_pos ⟨hpn, Or.inl e⟩
        rw [hz, if_neg (by omega)]
        rw [e, if_pos rfl] at ih
        have ih : mMx a f p n = zRs a f := by omega
        rw [ih, Nat.max_eq_right h1]; rfl
      · rw [e, if_neg (by omega)] at ih
        have ih : mMx a f p n = zPr a c := by
          have : ((c : Int)).toNat = c := rfl
          rw [this] at ih; omega
        by_cases h2 : zPr a c < zPr a n
        · have hz : zHi a p (n + 1) = (n : Int) := if_pos ⟨hpn, Or.inr (by rw [e]; exact h2)⟩
          rw [hz, if_neg (by omega), ih, Nat.max_eq_right (by omega)]; rfl
        · have hz : zHi a p (n + 1) = (c : Int) := by
            show (if p n = true ∧ (zHi a p n = -1 ∨ zPr a (zHi a p n).toNat < zPr a n) then (n : Int) else zHi a p n) = _
            rw [e, if_neg]
            rintro ⟨-, q | q⟩
            · omega
            · exact h2 q
          rw [hz, if_neg (by omega), ih, Nat.max_eq_left (by omega)]; rfl
    · have hz : zHi a p (n + 1) = zHi a p n := if_neg (fun h => hpn h.1)
      rw [if_neg hpn, hz]
      exact ih
