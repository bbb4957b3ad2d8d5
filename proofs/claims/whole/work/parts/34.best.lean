/-! both searches find the same set of bids: the best of an order that is total -/
theorem zBt_f (p r : Int × Nat) : zBt p r = false ↔ (r.1 < p.1 ∨ (r.1 = p.1 ∧ (zPop r.2 12 < zPop p.2 12 ∨ (zPop r.2 12 = zPop p.2 12 ∧ p.2 ≤ r.2)))) := by
  unfold zBt
  by_cases h : r.1 = p.1
  · rw [if_pos h]
    by_cases h2 : zPop r.2 12 = zPop p.2 12
    · rw [if_pos h2, decide_eq_false_iff_not]; omega
    · rw [if_neg h2, decide_eq_false_iff_not]; omega
  · rw [if_neg h, decide_eq_false_iff_not]; omega
theorem zBt_refl (p : Int × Nat) : zBt p p = false := (zBt_f p p).mpr (Or.inr ⟨rfl, Or.inr ⟨rfl, Nat.le_refl _⟩⟩)
theorem zBt_trans {p q r : Int × Nat} (h1 : zBt p q = false) (h2 : zBt q r = false) : zBt p r = false := by
  rw [zBt_f] at h1 h2 ⊢
  omega
theorem zBt_anti {p r : Int × Nat} (h : zBt p r = true) : zBt r p = false := by
  have h1 : ¬ zBt p r = false := by rw [h]; decide
  rw [zBt_f] at h1 ⊢
  omega
theorem zBt_eq {p r : Int × Nat} (h1 : zBt p r = false) (h2 : zBt r p = false) : p = r := by
  rw [zBt_f] at h1 h2
  have e1 : p.1 = r.1 := by omega
  have e2 : p.2 = r.2 := by omega
  exact Prod.ext e1 e2
theorem zCons_l (x y : Int × Nat) : zBt (zCons x y) x = false := by
  unfold zCons
  split
  · next h => exact zBt_anti h
  · exact zBt_refl x
theorem zCons_r (x y : Int × Nat) : zBt (zCons x y) y = false := by
  unfold zCons
  split
  · exact zBt_refl y
  · next h => simpa using h
theorem zCons_or (x y : Int × Nat) : zCons x y = x ∨ zCons x y = y := by
  unfold zCons
  split
  · exact Or.inr rfl
  · exact Or.inl rfl
theorem mset_ou (a : zS) (o n : Nat) : ∀ k, mLd (zSetOu a o) n k = mLd a n k ∧ mPp (zSetOu a o) n k = mPp a n k ∧ mGs (zSetOu a o) n k = mGs a n k
  | 0 => ⟨rfl, rfl, rfl⟩
  | k + 1 => by
    obtain ⟨h1, h2, h3⟩ := mset_ou a o n k
    rw [mLd_s, mPp_s, mGs_s, mLd_s, mPp_s, mGs_s, h1, h2, h3]
    exact ⟨rfl, rfl, rfl⟩
theorem mFe_pre (a : zS) (n : Nat) : ∀ j k, mFe a n (k + j) = true → mFe a n k = true
  | 0, _, h => h
  | j + 1, k, h => by
    refine mFe_pre a n j k ?_
    have h2 : mFe a n (k + j + 1) = true := h
    rw [mFe_s] at h2
    split at h2
    · simp only [Bool.and_eq_true] at h2; exact h2.1
    · exact h2
theorem mFe_mod (a : zS) (n j : Nat) : ∀ k, k ≤ j → mLd a (n % 2 ^ j) k = mLd a n k ∧ mPp a (n % 2 ^ j) k = mPp a n k ∧ mFe a (n % 2 ^ j) k = mFe a n k
  | 0, _ => ⟨rfl, rfl, rfl⟩
  | k + 1, h => by
    obtain ⟨h1, h2, h3⟩ := mFe_mod a n j k (by omega)
    have e : (n % 2 ^ j).testBit k = n.testBit k := by rw [Nat.testBit_mod_two_pow]; simp; omega
    rw [mLd_s, mPp_s, mFe_s, mLd_s, mPp_s, mFe_s, h1, h2, h3, e]
    exact ⟨rfl, rfl, rfl⟩
/-- of a set that can win, the first bids can -/
theorem mFe_cut {a : zS} {n j : Nat} (hj : j ≤ 12) (h : mFe a n 12 = true) : mFe a (n % 2 ^ j) 12 = true := by
  have h1 : n % 2 ^ j < 2 ^ j := Nat.mod_lt _ (Nat.two_pow_pos j)
  have h2 := (zset_hi (a := a) h1 (12 - j)).2.2.2.1
  rw [show j + (12 - j) = 12 by omega] at h2
  rw [h2, (mFe_mod a n j j (Nat.le_refl j)).2.2]
  refine mFe_pre a n (12 - j) j ?_
  rw [show j + (12 - j) = 12 by omega]
  exact h
theorem zor_add {m i : Nat} (h : m < 2 ^ i) : m ||| 2 ^ i = 2 ^ i + m := by
  have h1 := Nat.two_pow_add_eq_or_of_lt h 1
  rw [Nat.mul_one] at h1
  rw [h1, Nat.or_comm]
theorem zfit_eq {a : zS} {ab i m tf tb : Nat} (hi : i < 12) (hm : m < 2 ^ i) (h1 : tf = mLd a m 12) (h2 : ∀ o, tb.testBit o = (ab.testBit o || (mPp a m 12).testBit o)) (hf : mFe (zSetOu a (zOu a ||| ab)) m 12 = true) : zFitb a i tf tb = mFe (zSetOu a (zOu a ||| ab)) (2 ^ i + m) 12 := by
  obtain ⟨-, -, -, e, -⟩ := zset_add (a := zSetOu a (zOu a ||| ab)) hm hi
  obtain ⟨g1, g2, -⟩ := mset_ou a (zOu a ||| ab) m 12
  rw [e, hf, g1, g2]
  subst h1
  unfold zFitb
  rw [h2]
  show _ = (true && ((zGo a i == 0 && (!((zOu a ||| ab).testBit (zOw a i)) && decide (0 ≤ zGn a i))) && ((mLd a m 12 &&& zBu a i == 0) && !((mPp a m 12).testBit (zOw a i)))))
  unfold zCn
  rw [Nat.testBit_or]
  generalize (mLd a m 12 &&& zBu a i == 0) = x1
  generalize (zOu a).testBit (zOw a i) = x2
  generalize ab.testBit (zOw a i) = x3
  generalize (mPp a m 12).testBit (zOw a i) = x4
  generalize (zGo a i == 0) = x5
  generalize decide (0 ≤ zGn a i) = x6
  cases x1 <;> cases x2 <;> cases x3 <;> cases x4 <;> cases x5 <;> cases x6 <;> rfl
theorem zmod_s (n i : Nat) : n % 2 ^ (i + 1) = n % 2 ^ i ∨ n % 2 ^ (i + 1) = 2 ^ i + n % 2 ^ i := by
  have h := Nat.mod_pow_succ (b := 2) (x := n) (k := i)
  rcases Nat.mod_two_eq_zero_or_one (n / 2 ^ i) with e | e
  · rw [e, Nat.mul_zero] at h; exact Or.inl h
  · rw [e, Nat.mul_one] at h; exact Or.inr (by omega)
theorem zDfs_max {a : zS} (ha : zOk a) (ab : Nat) : ∀ (k : Nat) (x : Int × Nat) (i tf tb : Nat) (gi : Int) (m : Nat), i + k = zNb a → m < 2 ^ i → mFe (zSetOu a (zOu a ||| ab)) m 12 = true → tf = mLd a m 12 → (∀ o, tb.testBit o = (ab.testBit o || (mPp a m 12).testBit o)) → gi = mGa a m →
    (zDfs a k x i tf tb gi m = x ∨ ∃ n, n < 2 ^ zNb a ∧ mFe (zSetOu a (zOu a ||| ab)) n 12 = true ∧ zDfs a k x i tf tb gi m = (mGa a n, n)) ∧ zBt (zDfs a k x i tf tb gi m) x = false ∧ ∀ n, n < 2 ^ zNb a → n % 2 ^ i = m → n ≠ m → mFe (zSetOu a (zOu a ||| ab)) n 12 = true → zBt (zDfs a k x i tf tb gi m) (mGa a n, n) = false := by
  intro k
  induction k with
  | zero =>
    intro x i tf tb gi m hk hm hf h1 h2 h3
    refine ⟨Or.inl rfl, zBt_refl x, fun n hn hnm hne _ => absurd ?_ hne⟩
    rw [Nat.add_zero] at hk
    rw [hk, Nat.mod_eq_of_lt hn] at hnm
    exact hnm
  | succ k ih =>
    intro x i tf tb gi m hk hm hf h1 h2 h3
    have hnb := ha.2.2.1
    have hi : i < 12 := by omega
    have hfit := zfit_eq hi hm h1 h2 hf
    have hm2 : m < 2 ^ (i + 1) := by rw [Nat.pow_succ]; omega
    obtain ⟨i1, i2, i3⟩ := ih (zSw a k x i tf tb gi m) (i + 1) tf tb gi m (by omega) hm2 hf h1 h2 h3
    rw [zDfs_s]
    generalize hX : zDfs a k (zSw a k x i tf tb gi m) (i + 1) tf tb gi m = X at i1 i2 i3 ⊢
    have hfeq : zFitb a i tf tb = true → mFe (zSetOu a (zOu a ||| ab)) (2 ^ i + m) 12 = true := fun h => by rw [← hfit]; exact h
    by_cases hft : zFitb a i tf tb = true
    · have hsw : zSw a k x i tf tb gi m = zDfs a k (zCons x (gi + zGn a i, m ||| 2 ^ i)) (i + 1) (tf ||| zBu a i) (tb ||| 2 ^ zOw a i) (gi + zGn a i) (m ||| 2 ^ i) := if_pos hft
      obtain ⟨s1, s2, s3, -, -⟩ := zset_add (a := a) hm hi
      have hor := zor_add hm
      have hlt : 2 ^ i + m < 2 ^ (i + 1) := by rw [Nat.pow_succ]; omega
      have hlt2 : 2 ^ i + m < 2 ^ zNb a := Nat.lt_of_lt_of_le hlt (zp2_le (by omega))
      rw [hor] at hsw
      have hg : gi + zGn a i = mGa a (2 ^ i + m) := by rw [h3]; exact s3.symm
      obtain ⟨j1, j2, j3⟩ := ih (zCons x (gi + zGn a i, 2 ^ i + m)) (i + 1) (tf ||| zBu a i) (tb ||| 2 ^ zOw a i) (gi + zGn a i) (2 ^ i + m) (by omega) hlt (hfeq hft) (by rw [h1, s1]) (fun o => by rw [Nat.testBit_or, h2, s2, Nat.testBit_or, Bool.or_assoc]) hg
      rw [← hsw] at j1 j2 j3
      have hcx : zBt (zSw a k x i tf tb gi m) x = false := zBt_trans j2 (zCons_l _ _)
      have hcy : zBt (zSw a k x i tf tb gi m) (mGa a (2 ^ i + m), 2 ^ i + m) = false := by rw [← hg]; exact zBt_trans j2 (zCons_r _ _)
      refine ⟨?_, zBt_trans i2 hcx, fun n hn hnm hne hfn => ?_⟩
      · rcases i1 with e | ⟨n, e1, e2, e3⟩
        · rw [e]
          rcases j1 with e | ⟨n, e1, e2, e3⟩
          · rw [e]
            rcases zCons_or x (gi + zGn a i, 2 ^ i + m) with e | e
            · exact Or.inl e
            · exact Or.inr ⟨2 ^ i + m, hlt2, hfeq hft, by rw [e, hg]⟩
          · exact Or.inr ⟨n, e1, e2, e3⟩
        · exact Or.inr ⟨n, e1, e2, e3⟩
      · rcases zmod_s n i with e | e
        · exact i3 n hn (by rw [e]; exact hnm) hne hfn
        · rw [hnm] at e
          by_cases he : n = 2 ^ i + m
          · rw [he]; exact zBt_trans i2 hcy
          · exact zBt_trans i2 (j3 n hn e he hfn)
    · have hsw : zSw a k x i tf tb gi m = x := if_neg hft
      rw [hsw] at i1 i2
      refine ⟨i1, i2, fun n hn hnm hne hfn => ?_⟩
      rcases zmod_s n i with e | e
      · exact i3 n hn (by rw [e]; exact hnm) hne hfn
      · have h9 := mFe_cut (j := i + 1) (by omega) hfn
        rw [e, hnm] at h9
        exact absurd (hfit.trans h9) hft
theorem mBU_max (a : zS) : ∀ n, 0 < n → mFe a (mBU a n) 12 = true ∧ ∀ i, i < n → mFe a i 12 = true → zBt (mGa a (mBU a n), mBU a n) (mGa a i, i) = false
  | 0, h => absurd h (by decide)
  | 1, _ => by
    rw [mBU_1]
    refine ⟨(mz0 a 12).2.2.2.1, fun i hi _ => ?_⟩
    rw [show i = 0 by omega]
    exact zBt_refl _
  | n + 2, _ => by
    obtain ⟨h1, h2⟩ := mBU_max a (n + 1) (by omega)
    have h3 := mBU_lt a (n + 1) (by omega)
    rw [mBU_s]
    by_cases hc : mFe a (n + 1) 12 = true ∧ mBtr a (n + 1) (mBU a (n + 1)) = true
    · rw [if_pos hc]
      have hb : zBt (mGa a (n + 1), n + 1) (mGa a (mBU a (n + 1)), mBU a (n + 1)) = false := by
        rw [zBt_f]
        have hb := hc.2
        unfold mBtr at hb
        show mGa a (mBU a (n + 1)) < mGa a (n + 1) ∨ _
        split at hb
        · next g => exact Or.inl g
        · split at hb
          · next g => exact Or.inr ⟨g.symm, Or.inl (of_decide_eq_true hb)⟩
          · cases hb
      refine ⟨hc.1, fun i hi hfi => ?_⟩
      by_cases e : i = n + 1
      · rw [e]; exact zBt_refl _
      · exact zBt_trans hb (h2 i (by omega) hfi)
    · rw [if_neg hc]
      refine ⟨h1, fun i hi hfi => ?_⟩
      by_cases e : i = n + 1
      · subst e
        have hnb : ¬ mBtr a (n + 1) (mBU a (n + 1)) = true := fun h => hc ⟨hfi, h⟩
        unfold mBtr at hnb
        rw [zBt_f]
        show mGa a (n + 1) < mGa a (mBU a (n + 1)) ∨ (mGa a (n + 1) = mGa a (mBU a (n + 1)) ∧ (zPop (n + 1) 12 < zPop (mBU a (n + 1)) 12 ∨ (zPop (n + 1) 12 = zPop (mBU a (n + 1)) 12 ∧ mBU a (n + 1) ≤ n + 1)))
        split at hnb
        · exact absurd rfl hnb
        · split at hnb
          · next g1 g2 => 
            have g3 : ¬ zPop (mBU a (n + 1)) 12 < zPop (n + 1) 12 := fun h => hnb (decide_eq_true h)
            omega
          · omega
      · exact h2 i (by omega) hfi
/-- the class's search and the reference's find the same -/
theorem zFw_best {a : zS} (ha : zOk a) (ab : Nat) : zFw a ab = (mGa a (mBest (zSetOu a (zOu a ||| ab))), mBest (zSetOu a (zOu a ||| ab))) := by
  obtain ⟨h1, h2, h3, h4, -⟩ := mz0 a 12
  have h40 := (mz0 (zSetOu a (zOu a ||| ab)) 12).2.2.2.1
  obtain ⟨i1, i2, i3⟩ := zDfs_max ha ab (zNb a) (0, 0) 0 0 ab 0 0 (by omega) (by decide) h40 h1.symm (fun o => by rw [h2, Nat.zero_testBit]; simp) h3.symm
  have hv0 : ((0 : Int), (0 : Nat)) = (mGa a 0, 0) := by unfold mGa; rw [h3]
  obtain ⟨b1, b2⟩ := mBU_max (zSetOu a (zOu a ||| ab)) (2 ^ zNb a) (Nat.two_pow_pos _)
  have hg : ∀ n, mGa (zSetOu a (zOu a ||| ab)) n = mGa a n := fun n => (mset_ou a _ n 12).2.2
  have hb : mBU (zSetOu a (zOu a ||| ab)) (2 ^ zNb a) = mBest (zSetOu a (zOu a ||| ab)) := rfl
  have hbl : mBest (zSetOu a (zOu a ||| ab)) < 2 ^ zNb a := mBest_lt (zSetOu a (zOu a ||| ab))
  rw [hb] at b1 b2
  have hX : ∃ n, n < 2 ^ zNb a ∧ mFe (zSetOu a (zOu a ||| ab)) n 12 = true ∧ zFw a ab = (mGa a n, n) := by
    rcases i1 with e | h
    · exact ⟨0, Nat.two_pow_pos _, h40, e.trans hv0⟩
    · exact h
  obtain ⟨n, hn, hf, hx⟩ := hX
  refine zBt_eq ?_ ?_
  · by_cases e : mBest (zSetOu a (zOu a ||| ab)) = 0
    · rw [e, ← hv0]; exact i2
    · exact i3 _ hbl (by rw [Nat.pow_zero, Nat.mod_one]) e b1
  · have h9 := b2 n hn hf
    rw [hg, hg] at h9
    rw [hx]
    exact h9
theorem zSetOu_id (a : zS) : zSetOu a (zOu a) = a := rfl
theorem zFw_0 {a : zS} (ha : zOk a) : zFw a 0 = (mGa a (mBest a), mBest a) := by
  have h := zFw_best ha 0
  rwa [Nat.or_zero] at h
