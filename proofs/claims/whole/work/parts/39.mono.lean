/-! a bid that wins with a price wins with a higher one -/
theorem zGn_up (a : zS) (b x k : Nat) : zGn (zSetPr a b (x + 1)) k = zGn (zSetPr a b x) k + (if k = b then 1 else 0) := by
  show ((va_up (zPr a) b (x + 1) k : Nat) : Int) - (zRes a (zBu a k) : Int) = ((va_up (zPr a) b x k : Nat) : Int) - (zRes a (zBu a k) : Int) + _
  by_cases h : k = b
  · subst h
    rw [va_up_self, va_up_self, if_pos rfl]
    omega
  · rw [va_up_ne _ _ h, va_up_ne _ _ h, if_neg h]
    omega
theorem zCn_up {a : zS} {b x k o : Nat} (h : zCn (zSetPr a b x) o k = true) : zCn (zSetPr a b (x + 1)) o k = true := by
  have h1 := zCn_ge h
  have h2 := zGn_up a b x k
  have h3 : 0 ≤ zGn (zSetPr a b (x + 1)) k := by
    rw [h2]
    split <;> omega
  unfold zCn at h ⊢
  simp only [Bool.and_eq_true, decide_eq_true_eq] at h ⊢
  exact ⟨h.1, h.2.1, h3⟩
theorem zCn_ne {a : zS} {b x k o : Nat} (hk : k ≠ b) : zCn (zSetPr a b (x + 1)) o k = zCn (zSetPr a b x) o k := by
  have h2 := zGn_up a b x k
  rw [if_neg hk, Int.add_zero] at h2
  unfold zCn
  rw [h2]
  rfl
theorem mset_up (a : zS) (b x n : Nat) : ∀ k, mLd (zSetPr a b (x + 1)) n k = mLd (zSetPr a b x) n k ∧ mPp (zSetPr a b (x + 1)) n k = mPp (zSetPr a b x) n k ∧ mGs (zSetPr a b (x + 1)) n k = mGs (zSetPr a b x) n k + (if b < k ∧ n.testBit b = true then 1 else 0) ∧ (mFe (zSetPr a b x) n k = true → mFe (zSetPr a b (x + 1)) n k = true) ∧ (n.testBit b = false → mFe (zSetPr a b (x + 1)) n k = mFe (zSetPr a b x) n k)
  | 0 => ⟨rfl, rfl, by rw [if_neg (by omega)]; rfl, fun h => h, fun _ => rfl⟩
  | k + 1 => by
    obtain ⟨h1, h2, h3, h4, h5⟩ := mset_up a b x n k
    rw [mLd_s, mPp_s, mGs_s, mFe_s, mLd_s, mPp_s, mGs_s, mFe_s, h1, h2, h3, zGn_up]
    refine ⟨rfl, rfl, ?_, ?_, ?_⟩
    · by_cases hk : n.testBit k = true
      · rw [if_pos hk, if_pos hk]
        by_cases e : k = b
        · subst e
          rw [if_pos rfl, if_neg (by omega), if_pos ⟨by omega, hk⟩]
          omega
        · rw [if_neg e]
          by_cases g : b < k ∧ n.testBit b = true
          · rw [if_pos g, if_pos ⟨by omega, g.2⟩]; omega
          · rw [if_neg g, if_neg (fun q => g ⟨by omega, q.2⟩)]; omega
      · rw [if_neg hk, if_neg hk]
        by_cases g : b < k ∧ n.testBit b = true
        · rw [if_pos g, if_pos ⟨by omega, g.2⟩]
        · rw [if_neg g, if_neg (fun q => g ⟨by
            have : b ≠ k := fun e => hk (by rw [← e]; exact q.2)
            omega, q.2⟩)]
    · by_cases hk : n.testBit k = true
      · rw [if_pos hk, if_pos hk]
        simp only [Bool.and_eq_true]
        rintro ⟨g1, g2, g3⟩
        exact ⟨h4 g1, zCn_up g2, g3⟩
      · rw [if_neg hk, if_neg hk]; exact h4
    · intro hb
      rw [h5 hb]
      by_cases hk : n.testBit k = true
      · rw [if_pos hk, if_pos hk]
        have e : k ≠ b := fun e => by rw [e, hb] at hk; cases hk
        rw [show zCn (zSetPr a b (x + 1)) (zOu (zSetPr a b (x + 1))) k = zCn (zSetPr a b x) (zOu (zSetPr a b x)) k from zCn_ne e]
        rfl
      · rw [if_neg hk, if_neg hk]
theorem aWins_best {a : zS} {b x : Nat} (h : zOk (zSetPr a b x)) : aWins a b x = (mBest (zSetPr a b x)).testBit b := by
  unfold aWins
  rw [zFw_0 h]
theorem aWins_up {a : zS} {b x : Nat} (hb : b < zNb a) (h1 : zOk (zSetPr a b x)) (h2 : zOk (zSetPr a b (x + 1))) (hw : aWins a b x = true) : aWins a b (x + 1) = true := by
  rw [aWins_best h1] at hw
  rw [aWins_best h2]
  refine eq_true_of_ne_false (fun hm => ?_)
  have hnb : zNb a ≤ 12 := h1.2.2.1
  obtain ⟨f1, g1⟩ := mBU_max (zSetPr a b x) (2 ^ zNb a) (Nat.two_pow_pos _)
  obtain ⟨f2, g2⟩ := mBU_max (zSetPr a b (x + 1)) (2 ^ zNb a) (Nat.two_pow_pos _)
  have e1 : mBU (zSetPr a b x) (2 ^ zNb a) = mBest (zSetPr a b x) := rfl
  have e2 : mBU (zSetPr a b (x + 1)) (2 ^ zNb a) = mBest (zSetPr a b (x + 1)) := rfl
  rw [e1] at f1 g1
  rw [e2] at f2 g2
  have l1 : mBest (zSetPr a b x) < 2 ^ zNb a := mBest_lt (zSetPr a b x)
  have l2 : mBest (zSetPr a b (x + 1)) < 2 ^ zNb a := mBest_lt (zSetPr a b (x + 1))
  generalize mBest (zSetPr a b x) = n at *
  generalize mBest (zSetPr a b (x + 1)) = m at *
  obtain ⟨-, -, p1, p2, -⟩ := mset_up a b x n 12
  obtain ⟨-, -, q1, -, q2⟩ := mset_up a b x m 12
  rw [if_pos ⟨by omega, hw⟩] at p1
  rw [if_neg (by rw [hm]; simp)] at q1
  have r1 := g1 m l2 (by rw [← q2 hm]; exact f2)
  have r2 := g2 n l1 (p2 f1)
  rw [zBt_f] at r1 r2
  have r1 : mGs (zSetPr a b x) m 12 < mGs (zSetPr a b x) n 12 ∨ (mGs (zSetPr a b x) m 12 = mGs (zSetPr a b x) n 12 ∧ _) := r1
  have r2 : mGs (zSetPr a b (x + 1)) n 12 < mGs (zSetPr a b (x + 1)) m 12 ∨ (mGs (zSetPr a b (x + 1)) n 12 = mGs (zSetPr a b (x + 1)) m 12 ∧ _) := r2
  rcases r1 with r1 | ⟨r1, -⟩ <;> rcases r2 with r2 | ⟨r2, -⟩ <;> omega
theorem aWins_mono {a : zS} (ha : zInv a) {b : Nat} (hb : b < zNb a) {x : Nat} (hw : aWins a b x = true) : ∀ y, x ≤ y → y ≤ 999 → aWins a b y = true
  | 0, h, _ => by rw [show x = 0 by omega] at hw; exact hw
  | y + 1, h, h2 => by
    by_cases e : x = y + 1
    · rw [← e]; exact hw
    · exact aWins_up hb (zInv_setPr ha (by omega)).1 (zInv_setPr ha h2).1 (aWins_mono ha hb hw y (by omega) (by omega))
theorem zLs_eq {a : zS} {b t : Nat} (ht : t ≤ 1000) (hw : ∀ p, p ≤ 999 → aWins a b p = decide (t ≤ p)) : ∀ (n : Nat) (h : Int), -1 ≤ h → h ≤ (t : Int) - 1 → (t : Int) - 1 < h + ((2 ^ n : Nat) : Int) → zLs a b n h = (t : Int) - 1
  | 0, h, h1, h2, h3 => by
    show h = _
    have h3 : (t : Int) - 1 < h + 1 := h3
    omega
  | n + 1, h, h1, h2, h3 => by
    rw [zLs_s]
    have hp : 2 ^ (n + 1) = 2 ^ n + 2 ^ n := by rw [Nat.pow_succ]; omega
    rw [hp] at h3
    have hp0 := Nat.two_pow_pos n
    generalize 2 ^ n = s at *
    by_cases hc : h + (s : Int) ≤ (t : Int) - 1
    · have hx : aWins a b (h + (s : Int)).toNat = false := by
        rw [hw _ (by omega), decide_eq_false_iff_not]
        omega
      rw [if_pos ⟨by omega, hx⟩]
      exact zLs_eq ht hw n _ (by omega) hc (by omega)
    · rw [if_neg]
      · exact zLs_eq ht hw n h h1 h2 (by omega)
      · rintro ⟨g1, g2⟩
        rw [hw _ (by omega), decide_eq_false_iff_not] at g2
        omega
theorem aLeast_eq {a : zS} (ha : zInv a) {b h : Nat} (hb : b < zNb a) (hh : h ≤ 999) (hw : aWins a b h = true) (hl : ∀ p, p < h → aWins a b p = false) : aLeast a b = (h : Int) := by
  have h1 : ∀ p, p ≤ 999 → aWins a b p = decide (h ≤ p) := by
    intro p hp
    by_cases e : h ≤ p
    · rw [decide_eq_true e]; exact aWins_mono ha hb hw p e hp
    · rw [decide_eq_false e]; exact hl p (by omega)
  have h2 := zLs_eq (t := h) (by omega) h1 10 (-1) (by omega) (by omega) (by have : ((2 ^ 10 : Nat) : Int) = 1024 := rfl; omega)
  unfold aLeast
  rw [h2, if_pos (by omega)]
  omega
theorem aLeast_no {a : zS} (ha : zInv a) {b : Nat} (hb : b < zNb a) (hw : aWins a b 999 = false) : aLeast a b = -1 := by
  have h1 : ∀ p, p ≤ 999 → aWins a b p = decide (1000 ≤ p) := by
    intro p hp
    rw [decide_eq_false (by omega)]
    refine eq_false_of_ne_true (fun h => ?_)
    rw [aWins_mono ha hb h 999 hp (by omega)] at hw
    cases hw
  have h2 := zLs_eq (t := 1000) (by omega) h1 10 (-1) (by omega) (by omega) (by have : ((2 ^ 10 : Nat) : Int) = 1024 := rfl; omega)
  unfold aLeast
  rw [h2, if_neg (by omega)]
