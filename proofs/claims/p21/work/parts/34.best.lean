/-! sets of bids: the order that is total, and the best of those that can win -/
theorem zBt_f (p r : Int × Nat) : zBt p r = false ↔ (r.1 < p.1 ∨ (r.1 = p.1 ∧ (zPop r.2 12 < zPop p.2 12 ∨ (zPop r.2 12 = zPop p.2 12 ∧ p.2 ≤ r.2)))) := by
  unfold zBt
  by_cases h : r.1 = p.1
  · rw [if_pos h]
    by_cases h2 : zPop r.2 12 = zPop p.2 12
    · rw [if_pos h2, decide_eq_false_iff_not]; omega
    · rw [if_neg h2, decide_eq_false_iff_not]; omega
  · rw [if_neg h, decide_eq_false_iff_not]; omega
theorem zBt_refl (p : Int × Nat) : zBt p p = false := (zBt_f p p).mpr (Or.inr ⟨rfl, Or.inr ⟨rfl, Nat.le_refl _⟩⟩)
theorem zBt_trans {p q r : Int × Nat} (h1 : zBt p q = false) (h2 : zBt q r = false) : zBt p r = false := by
  rw [zBt_f] at h1 h2 ⊢
  omega
theorem zBt_anti {p r : Int × Nat} (h : zBt p r = true) : zBt r p = false := by
  have h1 : ¬ zBt p r = false := by rw [h]; decide
  rw [zBt_f] at h1 ⊢
  omega
theorem zBt_eq {p r : Int × Nat} (h1 : zBt p r = false) (h2 : zBt r p = false) : p = r := by
  rw [zBt_f] at h1 h2
  have e1 : p.1 = r.1 := by omega
  have e2 : p.2 = r.2 := by omega
  exact Prod.ext e1 e2
theorem zCons_l (x y : Int × Nat) : zBt (zCons x y) x = false := by
  unfold zCons
  split
  · next h => exact zBt_anti h
  · exact zBt_refl x
theorem zCons_r (x y : Int × Nat) : zBt (zCons x y) y = false := by
  unfold zCons
  split
  · exact zBt_refl y
  · next h => simpa using h
theorem zCons_or (x y : Int × Nat) : zCons x y = x ∨ zCons x y = y := by
  unfold zCons
  split
  · exact Or.inr rfl
  · exact Or.inl rfl
theorem zor_add {m i : Nat} (h : m < 2 ^ i) : m ||| 2 ^ i = 2 ^ i + m := by
  have h1 := Nat.two_pow_add_eq_or_of_lt h 1
  rw [Nat.mul_one] at h1
  rw [h1, Nat.or_comm]
theorem zmod_s (n i : Nat) : n % 2 ^ (i + 1) = n % 2 ^ i ∨ n % 2 ^ (i + 1) = 2 ^ i + n % 2 ^ i := by
  have h := Nat.mod_pow_succ (b := 2) (x := n) (k := i)
  rcases Nat.mod_two_eq_zero_or_one (n / 2 ^ i) with e | e
  · rw [e, Nat.mul_zero] at h; exact Or.inl h
  · rw [e, Nat.mul_one] at h; exact Or.inr (by omega)
theorem zadd_or_all : (List.range 12).all (fun b => (List.range 4096).all (fun n => n.testBit b || (n + 2 ^ b == n ||| 2 ^ b))) = true := by decide +kernel
theorem zadd_or {n b : Nat} (hn : n < 4096) (hb : b < 12) (h : n.testBit b = false) : n + 2 ^ b = n ||| 2 ^ b := by
  have h1 := List.all_eq_true.mp (List.all_eq_true.mp zadd_or_all b (List.mem_range.mpr hb)) n (List.mem_range.mpr hn)
  simpa [h] using h1
theorem zpow_bit {b i : Nat} : (2 ^ b).testBit i = decide (b = i) := Nat.testBit_two_pow
theorem zor_bit (n b i : Nat) : (n ||| 2 ^ b).testBit i = (n.testBit i || decide (b = i)) := by rw [Nat.testBit_or, zpow_bit]
theorem zbit_lt {n k i : Nat} (h : n < 2 ^ k) (hi : n.testBit i = true) : i < k := by
  refine Nat.lt_of_not_le (fun h9 => ?_)
  have h1 := Nat.testBit_lt_two_pow (Nat.lt_of_lt_of_le h (zp2_le h9))
  rw [h1] at hi
  cases hi
theorem zPop_or {n b : Nat} (h : n.testBit b = false) : ∀ k, zPop (n ||| 2 ^ b) k = zPop n k + (if b < k then 1 else 0)
  | 0 => rfl
  | k + 1 => by
    show zPop (n ||| 2 ^ b) k + _ = zPop n k + _ + _
    rw [zPop_or h k, zor_bit]
    by_cases e : b = k
    · subst e
      rw [h]
      simp
    · by_cases e2 : b < k
      · rw [if_pos e2, if_pos (show b < k + 1 by omega)]
        simp only [decide_eq_false e, Bool.or_false]
        omega
      · rw [if_neg e2, if_neg (show ¬ b < k + 1 by omega)]
        simp only [decide_eq_false e, Bool.or_false]
        omega
theorem zPop_0 : ∀ k, zPop 0 k = 0
  | 0 => rfl
  | k + 1 => by
    show zPop 0 k + _ = 0
    rw [zPop_0 k, Nat.zero_testBit]; rfl
/-- what a set gains -/
def fGa (a : zS) (n : Nat) : Int := zSi (fun b => if n.testBit b = true then zGn a b else 0) (zNb a)
/-- a set that can win when the bidders of o are out -/
def fFe (a : zS) (o n : Nat) : Prop := n < 2 ^ zNb a ∧ (∀ b, n.testBit b = true → zCn a o b = true) ∧ ∀ b c, n.testBit b = true → n.testBit c = true → b ≠ c → zOw a b ≠ zOw a c ∧ zBu a b &&& zBu a c = 0
theorem zSi_0 : ∀ n, zSi (fun _ => 0) n = 0
  | 0 => rfl
  | n + 1 => by
    show zSi (fun _ => 0) n + 0 = 0
    rw [zSi_0 n]; rfl
theorem fGa_0 (a : zS) : fGa a 0 = 0 := by
  unfold fGa
  rw [zSi_cong (f' := fun _ => 0) _ (fun i _ => by rw [Nat.zero_testBit]; rfl)]
  exact zSi_0 _
theorem fFe_0 (a : zS) (o : Nat) : fFe a o 0 := by
  refine ⟨Nat.two_pow_pos _, fun b h => ?_, fun b c h => ?_⟩
  · rw [Nat.zero_testBit] at h; cases h
  · rw [Nat.zero_testBit] at h; cases h
theorem zSi_or {f : Nat → Int} {n b : Nat} (h : n.testBit b = false) : ∀ k, zSi (fun i => if (n ||| 2 ^ b).testBit i = true then f i else 0) k = zSi (fun i => if n.testBit i = true then f i else 0) k + (if b < k then f b else 0)
  | 0 => rfl
  | k + 1 => by
    show zSi _ k + (if (n ||| 2 ^ b).testBit k = true then f k else 0) = zSi _ k + (if n.testBit k = true then f k else 0) + _
    rw [zSi_or h k, zor_bit]
    by_cases e : b = k
    · subst e
      rw [h]
      simp
    · by_cases e2 : b < k
      · rw [if_pos e2, if_pos (show b < k + 1 by omega)]
        simp only [decide_eq_false e, Bool.or_false]
        omega
      · rw [if_neg e2, if_neg (show ¬ b < k + 1 by omega)]
        simp only [decide_eq_false e, Bool.or_false]
        omega
theorem fGa_or {a : zS} {n b : Nat} (h : n.testBit b = false) (hb : b < zNb a) : fGa a (n ||| 2 ^ b) = fGa a n + zGn a b := by
  unfold fGa
  rw [zSi_or h, if_pos hb]
theorem fFe_sub {a : zS} {o n m : Nat} (h : fFe a o n) (hm : m < 2 ^ zNb a) (hs : ∀ c, m.testBit c = true → n.testBit c = true) : fFe a o m :=
  ⟨hm, fun b hb => h.2.1 b (hs b hb), fun b c hb hc => h.2.2 b c (hs b hb) (hs c hc)⟩
theorem fFe_add {a : zS} {o m i : Nat} (hi : i < zNb a) (hm : fFe a o m) (hb : m.testBit i = false) : fFe a o (m ||| 2 ^ i) ↔ zCn a o i = true ∧ ∀ c, m.testBit c = true → zOw a c ≠ zOw a i ∧ zBu a c &&& zBu a i = 0 := by
  constructor
  · intro h
    have hi9 : (m ||| 2 ^ i).testBit i = true := by rw [zor_bit]; simp
    refine ⟨h.2.1 i hi9, fun c hc => h.2.2 c i (by rw [zor_bit, hc]; rfl) hi9 (fun e => ?_)⟩
    rw [e, hb] at hc; cases hc
  · rintro ⟨h1, h2⟩
    refine ⟨Nat.or_lt_two_pow hm.1 (Nat.pow_lt_pow_right (by decide) hi), fun b h => ?_, fun b c h3 h4 hne => ?_⟩
    · rw [zor_bit, Bool.or_eq_true, decide_eq_true_eq] at h
      rcases h with h | h
      · exact hm.2.1 b h
      · rw [← h]; exact h1
    · rw [zor_bit, Bool.or_eq_true, decide_eq_true_eq] at h3 h4
      rcases h3 with h3 | h3 <;> rcases h4 with h4 | h4
      · exact hm.2.2 b c h3 h4 hne
      · rw [← h4]; exact h2 b h3
      · rw [← h3]
        obtain ⟨g1, g2⟩ := h2 c h4
        exact ⟨fun e => g1 e.symm, by rw [Nat.and_comm]; exact g2⟩
      · exact absurd (h3.symm.trans h4) hne
theorem zand_0 {x y : Nat} : x &&& y = 0 ↔ ∀ i, ¬ (x.testBit i = true ∧ y.testBit i = true) := by
  constructor
  · intro h i hi
    have h1 := congrArg (fun z => Nat.testBit z i) h
    simp [Nat.testBit_and, hi.1, hi.2] at h1
  · intro h
    apply Nat.eq_of_testBit_eq
    intro i
    rw [Nat.testBit_and, Nat.zero_testBit]
    have h1 := h i
    cases e1 : x.testBit i <;> cases e2 : y.testBit i <;> simp_all
/-- the fields of a set -/
def fTf (a : zS) (m tf : Nat) : Prop := ∀ x, tf.testBit x = true ↔ ∃ c, m.testBit c = true ∧ (zBu a c).testBit x = true
theorem fTf_0 (a : zS) : fTf a 0 0 := fun x => by simp
theorem fTf_or {a : zS} {m tf i : Nat} (h : fTf a m tf) : fTf a (m ||| 2 ^ i) (tf ||| zBu a i) := by
  intro x
  rw [Nat.testBit_or, Bool.or_eq_true, h x]
  constructor
  · rintro (⟨c, h1, h2⟩ | h2)
    · exact ⟨c, by rw [zor_bit, h1]; rfl, h2⟩
    · exact ⟨i, by rw [zor_bit]; simp, h2⟩
  · rintro ⟨c, h1, h2⟩
    rw [zor_bit, Bool.or_eq_true, decide_eq_true_eq] at h1
    rcases h1 with h1 | h1
    · exact Or.inl ⟨c, h1, h2⟩
    · exact Or.inr (by rw [h1]; exact h2)
theorem fTf_0iff {a : zS} {m tf y : Nat} (h : fTf a m tf) : tf &&& y = 0 ↔ ∀ c, m.testBit c = true → zBu a c &&& y = 0 := by
  rw [zand_0]
  constructor
  · intro h1 c hc
    rw [zand_0]
    rintro i ⟨h2, h3⟩
    exact h1 i ⟨(h i).mpr ⟨c, hc, h2⟩, h3⟩
  · rintro h1 i ⟨h2, h3⟩
    obtain ⟨c, hc, h4⟩ := (h i).mp h2
    exact zand_0.mp (h1 c hc) i ⟨h4, h3⟩
theorem zCn_out (a : zS) (ab i : Nat) : zCn a (zOu a ||| ab) i = (zCn a (zOu a) i && !(ab.testBit (zOw a i))) := by
  unfold zCn
  rw [Nat.testBit_or]
  cases (zGo a i == 0) <;> cases (zOu a).testBit (zOw a i) <;> cases ab.testBit (zOw a i) <;> cases decide (0 ≤ zGn a i) <;> rfl
theorem zFit_iff {a : zS} {ab i m tf tb : Nat} (hi : i < zNb a) (hb : m.testBit i = false) (h1 : fTf a m tf) (h2 : ∀ o, tb.testBit o = true ↔ (ab.testBit o = true ∨ ∃ c, m.testBit c = true ∧ zOw a c = o)) (hf : fFe a (zOu a ||| ab) m) : zFitb a i tf tb = true ↔ fFe a (zOu a ||| ab) (m ||| 2 ^ i) := by
  rw [fFe_add hi hf hb, zCn_out]
  unfold zFitb
  simp only [Bool.and_eq_true, beq_iff_eq, Bool.not_eq_true']
  rw [fTf_0iff h1, ← Bool.not_eq_true, ← Bool.not_eq_true, h2]
  constructor
  · rintro ⟨g1, g2, g3⟩
    exact ⟨⟨g3, fun h => g2 (Or.inl h)⟩, fun c hc => ⟨fun e => g2 (Or.inr ⟨c, hc, e⟩), g1 c hc⟩⟩
  · rintro ⟨⟨g1, g2⟩, g3⟩
    refine ⟨fun c hc => (g3 c hc).2, ?_, g1⟩
    rintro (h | ⟨c, hc, e⟩)
    · exact g2 h
    · exact (g3 c hc).1 e
theorem fFe_cut {a : zS} {o n j : Nat} (h : fFe a o n) : fFe a o (n % 2 ^ j) :=
  fFe_sub h (Nat.lt_of_le_of_lt (Nat.mod_le _ _) h.1) (fun c hc => by
    rw [Nat.testBit_mod_two_pow, Bool.and_eq_true] at hc; exact hc.2)
theorem zDfs_max {a : zS} (ha : zOk a) (ab : Nat) : ∀ (k : Nat) (x : Int × Nat) (i tf tb : Nat) (gi : Int) (m : Nat), i + k = zNb a → m < 2 ^ i → fFe a (zOu a ||| ab) m → fTf a m tf → (∀ o, tb.testBit o = true ↔ (ab.testBit o = true ∨ ∃ c, m.testBit c = true ∧ zOw a c = o)) → gi = fGa a m →
    (zDfs a k x i tf tb gi m = x ∨ ∃ n, fFe a (zOu a ||| ab) n ∧ zDfs a k x i tf tb gi m = (fGa a n, n)) ∧ zBt (zDfs a k x i tf tb gi m) x = false ∧ ∀ n, n % 2 ^ i = m → n ≠ m → fFe a (zOu a ||| ab) n → zBt (zDfs a k x i tf tb gi m) (fGa a n, n) = false := by
  intro k
  induction k with
  | zero =>
    intro x i tf tb gi m hk hm hf h1 h2 h3
    refine ⟨Or.inl rfl, zBt_refl x, fun n hnm hne hfn => absurd ?_ hne⟩
    rw [Nat.add_zero] at hk
    rw [hk, Nat.mod_eq_of_lt hfn.1] at hnm
    exact hnm
  | succ k ih =>
    intro x i tf tb gi m hk hm hf h1 h2 h3
    have hnb := ha.2.2.1
    have hi : i < zNb a := by omega
    have hbi : m.testBit i = false := Nat.testBit_lt_two_pow hm
    have hfit := zFit_iff hi hbi h1 h2 hf
    have hm2 : m < 2 ^ (i + 1) := by rw [Nat.pow_succ]; omega
    obtain ⟨i1, i2, i3⟩ := ih (zSw a k x i tf tb gi m) (i + 1) tf tb gi m (by omega) hm2 hf h1 h2 h3
    rw [zDfs_s]
    generalize hX : zDfs a k (zSw a k x i tf tb gi m) (i + 1) tf tb gi m = X at i1 i2 i3 ⊢
    have hor := zor_add hm
    by_cases hft : zFitb a i tf tb = true
    · have hsw : zSw a k x i tf tb gi m = zDfs a k (zCons x (gi + zGn a i, m ||| 2 ^ i)) (i + 1) (tf ||| zBu a i) (tb ||| 2 ^ zOw a i) (gi + zGn a i) (m ||| 2 ^ i) := if_pos hft
      have hfe := hfit.mp hft
      have hlt : m ||| 2 ^ i < 2 ^ (i + 1) := zor_lt hm
      have hg : gi + zGn a i = fGa a (m ||| 2 ^ i) := by rw [h3, fGa_or hbi hi]
      obtain ⟨j1, j2, j3⟩ := ih (zCons x (gi + zGn a i, m ||| 2 ^ i)) (i + 1) (tf ||| zBu a i) (tb ||| 2 ^ zOw a i) (gi + zGn a i) (m ||| 2 ^ i) (by omega) hlt hfe (fTf_or h1) (fun o => by
        rw [zor_bit, Bool.or_eq_true, h2, decide_eq_true_eq]
        constructor
        · rintro ((h | ⟨c, hc, e⟩) | h)
          · exact Or.inl h
          · exact Or.inr ⟨c, by rw [zor_bit, hc]; rfl, e⟩
          · exact Or.inr ⟨i, by rw [zor_bit]; simp, h⟩
        · rintro (h | ⟨c, hc, e⟩)
          · exact Or.inl (Or.inl h)
          · rw [zor_bit, Bool.or_eq_true, decide_eq_true_eq] at hc
            rcases hc with hc | hc
            · exact Or.inl (Or.inr ⟨c, hc, e⟩)
            · exact Or.inr (by rw [hc]; exact e)) hg
      rw [← hsw] at j1 j2 j3
      have hcx : zBt (zSw a k x i tf tb gi m) x = false := zBt_trans j2 (zCons_l _ _)
      have hcy : zBt (zSw a k x i tf tb gi m) (fGa a (m ||| 2 ^ i), m ||| 2 ^ i) = false := by rw [← hg]; exact zBt_trans j2 (zCons_r _ _)
      refine ⟨?_, zBt_trans i2 hcx, fun n hnm hne hfn => ?_⟩
      · rcases i1 with e | ⟨n, e1, e2⟩
        · rw [e]
          rcases j1 with e | ⟨n, e1, e2⟩
          · rw [e]
            rcases zCons_or x (gi + zGn a i, m ||| 2 ^ i) with e | e
            · exact Or.inl e
            · exact Or.inr ⟨m ||| 2 ^ i, hfe, by rw [e, hg]⟩
          · exact Or.inr ⟨n, e1, e2⟩
        · exact Or.inr ⟨n, e1, e2⟩
      · rcases zmod_s n i with e | e
        · exact i3 n (by rw [e]; exact hnm) hne hfn
        · rw [hnm, ← hor] at e
          by_cases he : n = m ||| 2 ^ i
          · rw [he]; exact zBt_trans i2 hcy
          · exact zBt_trans i2 (j3 n e he hfn)
    · have hsw : zSw a k x i tf tb gi m = x := if_neg hft
      rw [hsw] at i1 i2
      refine ⟨i1, i2, fun n hnm hne hfn => ?_⟩
      rcases zmod_s n i with e | e
      · exact i3 n (by rw [e]; exact hnm) hne hfn
      · have h9 := fFe_cut (j := i + 1) hfn
        rw [e, hnm, ← hor] at h9
        exact absurd (hfit.mpr h9) hft
/-- the class's search finds the best -/
theorem zFw_top {a : zS} (ha : zOk a) (ab : Nat) : (zFw a ab).1 = fGa a (zFw a ab).2 ∧ fFe a (zOu a ||| ab) (zFw a ab).2 ∧ ∀ n, fFe a (zOu a ||| ab) n → zBt (zFw a ab) (fGa a n, n) = false := by
  obtain ⟨i1, i2, i3⟩ := zDfs_max ha ab (zNb a) (0, 0) 0 0 ab 0 0 (by omega) (by decide) (fFe_0 _ _) (fTf_0 a) (fun o => by simp) (fGa_0 a).symm
  have e9 : zDfs a (zNb a) (0, 0) 0 0 ab 0 0 = zFw a ab := rfl
  rw [e9] at i1 i2 i3
  have h0 : ((0 : Int), (0 : Nat)) = (fGa a 0, 0) := by rw [fGa_0]
  refine ⟨?_, ?_, fun n hn => ?_⟩
  · rcases i1 with e | ⟨n, e1, e2⟩
    · rw [e, h0]
    · rw [e2]
  · rcases i1 with e | ⟨n, e1, e2⟩
    · rw [e]; exact fFe_0 _ _
    · rw [e2]; exact e1
  · by_cases h : n = 0
    · rw [h, ← h0]; exact i2
    · exact i3 n (by rw [Nat.pow_zero, Nat.mod_one]) h hn
theorem zFw_is {a : zS} (ha : zOk a) (ab : Nat) {y : Int × Nat} (h1 : y.1 = fGa a y.2) (h2 : fFe a (zOu a ||| ab) y.2) (h3 : ∀ n, fFe a (zOu a ||| ab) n → zBt y (fGa a n, n) = false) : y = zFw a ab := by
  obtain ⟨g1, g2, g3⟩ := zFw_top ha ab
  refine zBt_eq ?_ ?_
  · have h := h3 _ g2
    rw [← g1] at h
    exact h
  · have h := g3 _ h2
    rw [← h1] at h
    exact h
theorem zFw_lt {a : zS} (ha : zOk a) (ab : Nat) : (zFw a ab).2 < 2 ^ zNb a := (zFw_top ha ab).2.1.1
