/-! what is told of a sale, held against what the law asks -/
theorem zCn_go {a : zS} {o b : Nat} (h : zCn a o b = true) : zGo a b = 0 := by
  simp only [zCn, Bool.and_eq_true, beq_iff_eq] at h
  exact h.1
theorem zCn_in {a : zS} (ha : zOk a) {b : Nat} (hb : b < zNb a) (h : zCn a (zOu a) b = true) : zIn a (zOw a b) = true := by
  simp only [zCn, Bool.and_eq_true] at h
  unfold zIn
  rw [decide_eq_true (ha.ow hb), h.2.1]; rfl
theorem zFw_fe {a : zS} (ha : zOk a) : fFe a (zOu a) (zFw a 0).2 := by
  have h := (zFw_top ha 0).2.1
  rwa [Nat.or_zero] at h
theorem zFw_cn {a : zS} (ha : zOk a) {b : Nat} (h : (zFw a 0).2.testBit b = true) : zCn a (zOu a) b = true := (zFw_fe ha).2.1 b h
theorem zFw_ge {a : zS} (ha : zOk a) {ab n : Nat} (h : fFe a (zOu a ||| ab) n) : fGa a n ≤ (zFw a ab).1 := by
  have h1 := (zFw_top ha ab).2.2 n h
  rw [zBt_f] at h1
  have h2 : fGa a n < (zFw a ab).1 ∨ (fGa a n = (zFw a ab).1 ∧ _) := h1
  rcases h2 with h2 | ⟨h2, -⟩ <;> omega
theorem zFw_ge0 {a : zS} (ha : zOk a) {n : Nat} (h : fFe a (zOu a) n) : fGa a n ≤ (zFw a 0).1 := zFw_ge ha (by rw [Nat.or_zero]; exact h)
theorem zOrs_dis {a : zS} (ha : zOk a) {b : Nat} (h : (zFw a 0).2.testBit b = true) : zOrs (fun b => if (zFw a 0).2.testBit b = true then zBu a b else 0) b &&& zBu a b = 0 := by
  rw [zand_0]
  rintro i ⟨h1, h2⟩
  obtain ⟨c, hc, h3⟩ := (zOrs_bit _ i b).mp h1
  by_cases h4 : (zFw a 0).2.testBit c = true
  · have h5 : (if (zFw a 0).2.testBit c = true then zBu a c else 0).testBit i = true := h3
    rw [if_pos h4] at h5
    have := zFw_fld ha h4 h h5 h2
    omega
  · have h5 : (if (zFw a 0).2.testBit c = true then zBu a c else 0).testBit i = true := h3
    rw [if_neg h4, Nat.zero_testBit] at h5
    cases h5
/-- how many of the first b bids win and are of d -/
def zWc (a : zS) (b d : Nat) : Nat := zCnt (fun c => (zFw a 0).2.testBit c && decide (zOw a c = d)) b
theorem zWc_le (a : zS) (b d : Nat) : zWc a b d ≤ b := zCnt_le _ b
theorem zCnt_0 {p : Nat → Bool} : ∀ n, (∀ i, i < n → p i = false) → zCnt p n = 0
  | 0, _ => rfl
  | n + 1, h => by rw [zCnt_n (h n (by omega))]; exact zCnt_0 n (fun i hi => h i (by omega))
theorem zCnt_pos {p : Nat → Bool} {c : Nat} (h : p c = true) : ∀ n, c < n → 0 < zCnt p n
  | 0, hc => absurd hc (Nat.not_lt_zero c)
  | n + 1, hc => by
    by_cases e : c = n
    · subst e; rw [zCnt_y h]; omega
    · have := zCnt_pos h n (by omega)
      show 0 < zCnt p n + _
      omega
theorem zWc_0 {a : zS} (ha : zOk a) {b : Nat} (h : (zFw a 0).2.testBit b = true) : zWc a b (zOw a b) = 0 := by
  refine zCnt_0 _ (fun i hi => ?_)
  rw [← Bool.not_eq_true, Bool.and_eq_true, decide_eq_true_eq]
  rintro ⟨h1, h2⟩
  have := zFw_one ha h1 h h2
  omega
theorem zWc_y {a : zS} {b : Nat} (h : (zFw a 0).2.testBit b = true) : upd (fun d => nI (zWc a b d)) (zOw a b) (nI (zWc a b (zOw a b) + 1)) = fun d => nI (zWc a (b + 1) d) := by
  funext d
  show (if d = zOw a b then nI (zWc a b (zOw a b) + 1) else nI (zWc a b d)) = _
  by_cases e : d = zOw a b
  · subst e
    rw [if_pos rfl]
    unfold zWc
    rw [zCnt_y (n := b) (by rw [h]; simp)]
  · rw [if_neg e]
    unfold zWc
    rw [zCnt_n (n := b) (by rw [h, decide_eq_false (fun q => e q.symm)]; rfl)]
theorem zWc_n {a : zS} {b : Nat} (h : ¬ (zFw a 0).2.testBit b = true) : (fun d => nI (zWc a b d)) = fun d => nI (zWc a (b + 1) d) := by
  funext d
  unfold zWc
  rw [zCnt_n (n := b) (by rw [Bool.not_eq_true] at h; rw [h]; rfl)]
theorem zWc_no {a : zS} {d : Nat} (h : aWin a d = -1) : zWc a (zNb a) d = 0 := by
  refine zCnt_0 _ (fun i hi => ?_)
  rw [← Bool.not_eq_true, Bool.and_eq_true, decide_eq_true_eq]
  intro h2
  rcases zLw_spec a (zFw a 0).2 d (zNb a) with ⟨-, h1⟩ | ⟨c, -, e, -⟩
  · exact h1 i hi h2
  · have h3 : aWin a d = (c : Int) := e
    omega
theorem zWc_yes {a : zS} {d c : Nat} (hc : c < zNb a) (h1 : (zFw a 0).2.testBit c = true) (h2 : zOw a c = d) : 0 < zWc a (zNb a) d := zCnt_pos (c := c) (by rw [h1, h2]; simp) _ hc
theorem zFw_gain {a : zS} (ha : zOk a) : zSi (fun b => if (zFw a 0).2.testBit b = true then zGn a b else 0) (zNb a) = (zFw a 0).1 := (zFw_top ha 0).1.symm
theorem zSi_y {S : Nat} {f : Nat → Int} {n : Nat} (h : S.testBit n = true) : zSi (fun b => if S.testBit b = true then f b else 0) (n + 1) = zSi (fun b => if S.testBit b = true then f b else 0) n + f n := by
  show _ + (if S.testBit n = true then f n else 0) = _
  rw [if_pos h]
theorem zSi_n {S : Nat} {f : Nat → Int} {n : Nat} (h : ¬ S.testBit n = true) : zSi (fun b => if S.testBit b = true then f b else 0) (n + 1) = zSi (fun b => if S.testBit b = true then f b else 0) n := by
  show _ + (if S.testBit n = true then f n else 0) = _
  rw [if_neg h, Int.add_zero]
theorem zPop_y {S n : Nat} (h : S.testBit n = true) : zPop S (n + 1) = zPop S n + 1 := by rw [zPop_s, if_pos h]
theorem zPop_n {S n : Nat} (h : ¬ S.testBit n = true) : zPop S (n + 1) = zPop S n := by rw [zPop_s, if_neg h, Nat.add_zero]
theorem zFw_many {a : zS} (ha : zOk a) : zPop (zFw a 0).2 (zNb a) = zPop (zFw a 0).2 12 := by
  have hnb := ha.2.2.1
  have h := zPop_tail (x := (zFw a 0).2) (n := zNb a) (12 - zNb a) (fun i hi => Nat.testBit_lt_two_pow (Nat.lt_of_lt_of_le (zFw_lt ha 0) (zp2_le hi)))
  rw [show zNb a + (12 - zNb a) = 12 by omega] at h
  exact h.symm
/-- no bid that counts gains more -/
theorem zFw_le1 {a : zS} (ha : zOk a) {b : Nat} (hb : b < zNb a) (h : zCn a (zOu a) b = true) : zGn a b ≤ (zFw a 0).1 := by
  have h1 : fFe a (zOu a) (0 ||| 2 ^ b) := (fFe_add hb (fFe_0 a _) (Nat.zero_testBit b)).mpr ⟨h, fun c hc => by rw [Nat.zero_testBit] at hc; cases hc⟩
  have h2 := zFw_ge0 ha h1
  rw [fGa_or (Nat.zero_testBit b) hb, fGa_0] at h2
  omega
/-- nor two of different bidders without a field together -/
theorem zFw_le2 {a : zS} (ha : zOk a) {b c : Nat} (hb : b < zNb a) (hc : c < zNb a) (h1 : zCn a (zOu a) b = true) (h2 : zCn a (zOu a) c = true) (h3 : ¬ zOw a b = zOw a c) (h4 : zBu a b &&& zBu a c = 0) : zGn a b + zGn a c ≤ (zFw a 0).1 := by
  have g1 : fFe a (zOu a) (0 ||| 2 ^ b) := (fFe_add hb (fFe_0 a _) (Nat.zero_testBit b)).mpr ⟨h1, fun c hc => by rw [Nat.zero_testBit] at hc; cases hc⟩
  have hne : b ≠ c := fun e => h3 (by rw [e])
  have g0 : (0 ||| 2 ^ b).testBit c = false := by rw [zor_bit, Nat.zero_testBit, decide_eq_false hne]; rfl
  have g2 : fFe a (zOu a) ((0 ||| 2 ^ b) ||| 2 ^ c) := (fFe_add hc g1 g0).mpr ⟨h2, fun i hi => by
    rw [zor_bit, Nat.zero_testBit, Bool.false_or, decide_eq_true_eq] at hi
    rw [← hi]
    exact ⟨h3, h4⟩⟩
  have g3 := zFw_ge0 ha g2
  rw [fGa_or g0 hc, fGa_or (Nat.zero_testBit b) hb, fGa_0] at g3
  omega
theorem zCn_wo {a : zS} {d b : Nat} : zCn a (zOu a ||| 2 ^ d) b = true ↔ (zCn a (zOu a) b = true ∧ zOw a b ≠ d) := by
  rw [zCn_out, zpow_bit, Bool.and_eq_true, Bool.not_eq_true', decide_eq_false_iff_not]
  constructor
  · rintro ⟨h1, h2⟩; exact ⟨h1, fun e => h2 e.symm⟩
  · rintro ⟨h1, h2⟩; exact ⟨h1, fun e => h2 e.symm⟩
/-- without any bidder the sum is no greater -/
theorem zGw_le {a : zS} (ha : zOk a) (d : Nat) : (zFw a (2 ^ d)).1 ≤ (zFw a 0).1 := by
  have h := zFw_top ha (2 ^ d)
  rw [h.1]
  exact zFw_ge0 ha ⟨h.2.1.1, fun b hb => (zCn_wo.mp (h.2.1.2.1 b hb)).1, h.2.1.2.2⟩
/-- without one who has no winning bid it is the same -/
theorem zGw_no {a : zS} (ha : zOk a) {d : Nat} (h : aWin a d = -1) : (zFw a (2 ^ d)).1 = (zFw a 0).1 := by
  have h1 := zGw_le ha d
  have h2 : fFe a (zOu a ||| 2 ^ d) (zFw a 0).2 := by
    refine ⟨(zFw_fe ha).1, fun b hb => zCn_wo.mpr ⟨zFw_cn ha hb, fun e => ?_⟩, (zFw_fe ha).2.2⟩
    have := aWin_of ha hb
    rw [e, h] at this
    omega
  have h3 := zFw_ge ha h2
  rw [← (zFw_top ha 0).1] at h3
  omega
/-- the others' gains can be had without the winner -/
theorem zGw_ge {a : zS} (ha : zOk a) {c : Nat} (hc : (zFw a 0).2.testBit c = true) : (zFw a 0).1 - zGn a c ≤ (zFw a (2 ^ zOw a c)).1 := by
  have hcn := zbit_lt (zFw_lt ha 0) hc
  generalize hS : (zFw a 0).2 ^^^ 2 ^ c = S'
  have hb : ∀ i, S'.testBit i = ((zFw a 0).2.testBit i ^^ decide (c = i)) := fun i => by rw [← hS, Nat.testBit_xor, zpow_bit]
  have hcc : S'.testBit c = false := by rw [hb, hc]; simp
  have hsub : ∀ i, S'.testBit i = true → (zFw a 0).2.testBit i = true ∧ i ≠ c := by
    intro i hi
    have hne : i ≠ c := fun e => by rw [e, hcc] at hi; cases hi
    rw [hb, decide_eq_false (fun e => hne e.symm), Bool.xor_false] at hi
    exact ⟨hi, hne⟩
  have hor : S' ||| 2 ^ c = (zFw a 0).2 := by
    apply Nat.eq_of_testBit_eq
    intro i
    rw [zor_bit, hb]
    by_cases e : c = i
    · subst e; rw [hc]; simp
    · rw [decide_eq_false e]; simp
  have hlt : S' < 2 ^ zNb a := by
    rw [← hS]
    exact Nat.xor_lt_two_pow (zFw_lt ha 0) (Nat.pow_lt_pow_right (by decide) hcn)
  have hf : fFe a (zOu a ||| 2 ^ zOw a c) S' := by
    refine ⟨hlt, fun b hb2 => zCn_wo.mpr ⟨zFw_cn ha (hsub b hb2).1, fun e => ?_⟩, fun b c2 h1 h2 => (zFw_fe ha).2.2 b c2 (hsub b h1).1 (hsub c2 h2).1⟩
    exact (hsub b hb2).2 (zFw_one ha (hsub b hb2).1 hc e)
  have h1 := zFw_ge ha hf
  have h2 := fGa_or hcc hcn
  rw [hor, ← (zFw_top ha 0).1] at h2
  omega
theorem aPaid_lo {a : zS} (ha : zOk a) {c : Nat} (hc : (zFw a 0).2.testBit c = true) : (zPr a c : Int) - zGn a c ≤ aPaid a (zOw a c) := by
  have hcn := zbit_lt (zFw_lt ha 0) hc
  rw [aPaid_y (ha.ow hcn) (aWin_of ha hc)]
  have h1 := zGw_ge ha hc
  unfold zGn at h1 ⊢
  omega
theorem aPaid_hi {a : zS} (ha : zOk a) {c : Nat} (hc : (zFw a 0).2.testBit c = true) : aPaid a (zOw a c) ≤ (zPr a c : Int) := by
  have hcn := zbit_lt (zFw_lt ha 0) hc
  rw [aPaid_y (ha.ow hcn) (aWin_of ha hc)]
  have h1 := zGw_le ha (zOw a c)
  unfold zGn
  omega
theorem zGw_d {a : zS} {d : Nat} (hd : d < zNd a) : aAbout a d 5 = (zFw a (2 ^ d)).1 := by
  show zGw a 0 d = _
  unfold zGw
  rw [if_pos hd, Nat.zero_or]
theorem aProf_n {a : zS} {d : Nat} (h : aWin a d = -1) : aProf a d = 0 := by
  unfold aProf zPfv
  rw [if_pos h]
theorem aSold_bit {a : zS} (f : Nat) : (aSold a).testBit f = true ↔ ∃ b, b < zNb a ∧ (zFw a 0).2.testBit b = true ∧ (zBu a b).testBit f = true := by
  unfold aSold
  rw [zOrs_bit]
  constructor
  · rintro ⟨b, h1, h2⟩
    by_cases h3 : (zFw a 0).2.testBit b = true
    · have h4 : (if (zFw a 0).2.testBit b = true then zBu a b else 0).testBit f = true := h2
      rw [if_pos h3] at h4
      exact ⟨b, h1, h3, h4⟩
    · have h4 : (if (zFw a 0).2.testBit b = true then zBu a b else 0).testBit f = true := h2
      rw [if_neg h3, Nat.zero_testBit] at h4
      cases h4
  · rintro ⟨b, h1, h2, h3⟩
    refine ⟨b, h1, ?_⟩
    show (if (zFw a 0).2.testBit b = true then zBu a b else 0).testBit f = true
    rw [if_pos h2]; exact h3
/-- a field is sold just if a winning bid has it -/
theorem aLand_cases (a : zS) (f : Nat) : (aLand a f 1 = -1 ∧ (aSold a).testBit f = false) ∨ ∃ c, c < zNb a ∧ aLand a f 1 = (zOw a c : Int) ∧ (zFw a 0).2.testBit c = true ∧ (zBu a c).testBit f = true ∧ (aSold a).testBit f = true := by
  have hl : aLand a f 1 = if aWf a f = -1 then -1 else (zOw a (aWf a f).toNat : Int) := rfl
  rcases aWf_spec a f with ⟨e, h⟩ | ⟨c, h1, e, h2, h3⟩
  · refine Or.inl ⟨by rw [hl, if_pos e], ?_⟩
    rw [← Bool.not_eq_true, aSold_bit]
    rintro ⟨b, g1, g2⟩
    exact h b g1 g2
  · refine Or.inr ⟨c, h1, by rw [hl, e, if_neg (by omega)]; rfl, h2, h3, (aSold_bit f).mpr ⟨c, h1, h2, h3⟩⟩
theorem zbit_and {n k : Nat} : nI (n / 2 ^ k) &&& nI 1 = bI (n.testBit k) := by
  rw [zand_NN, Nat.and_one_is_mod, zdivmod_bit]
  cases n.testBit k <;> rfl
