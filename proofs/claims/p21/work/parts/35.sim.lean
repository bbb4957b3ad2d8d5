/-! the sale that the law keeps by hand: its world, 0 the object, 1 reserves, 2 who is in, 3 the row of bids, then a row for each bid -/
def zRf (a : zS) : Nat → Nat := fun k => if k < zNf a then zRs a k else 0
def zRow (a : zS) (b : Nat) : Nat → Int32 := fun j => match j with
  | 0 => nI (zOw a b)
  | 1 => nI (zBu a b)
  | 2 => nI (zPr a b)
  | 3 => nI (zWo a b)
  | 4 => nI (zGo a b)
  | _ => nI 0
def zPt (a : zS) (q : Nat → Nat) : Nat → Option Nat := fun i => if i < zNb a then some (q (4 + i)) else none
theorem zPt_at {a : zS} {q : Nat → Nat} {i : Nat} (h : i < zNb a) : zPt a q i = some (q (4 + i)) := if_pos h
def wSr (g : zG) (q : Nat → Nat) (a : zS) : va_W := (List.range (zNb a)).map (fun b => (q (4 + b), .inl (zI g, 5, .inl (zRow a b))))
def wS (g : zG) (q : Nat → Nat) (a : zS) (sm : Int × Nat × Nat) : va_W :=
  (q 0, .inr (3, [.ref (q 1), .ref (q 2), .ref (q 3), .int (iZ sm.1), .int (nI sm.2.1), .int (nI sm.2.2)])) ::
  (q 1, .inl (zI g, zNf a, .inl (fun k => nI (zRf a k)))) :: (q 2, .inl (zZ g, zNd a, .inl (fun k => bI (zIn a k)))) ::
  (q 3, .inl (zJ g, zNb a, .inr (.inr (.inr (.inr (zPt a q)))))) :: wSr g q a
section WS
variable {g : zG} {q : Nat → Nat} {a : zS} {sm : Int × Nat × Nat}
theorem wS_o : (wS g q a sm)[0]? = some (q 0, .inr (3, [.ref (q 1), .ref (q 2), .ref (q 3), .int (iZ sm.1), .int (nI sm.2.1), .int (nI sm.2.2)])) := rfl
theorem wS_rs : (wS g q a sm)[1]? = some (q 1, .inl (zI g, zNf a, .inl (fun k => nI (zRf a k)))) := rfl
theorem wS_in : (wS g q a sm)[2]? = some (q 2, .inl (zZ g, zNd a, .inl (fun k => bI (zIn a k)))) := rfl
theorem wS_bi : (wS g q a sm)[3]? = some (q 3, .inl (zJ g, zNb a, .inr (.inr (.inr (.inr (zPt a q)))))) := rfl
theorem wS_row {b : Nat} (hb : b < zNb a) : (wS g q a sm)[4 + b]? = some (q (4 + b), .inl (zI g, 5, .inl (zRow a b))) := by
  rw [Nat.add_comm 4 b]
  show (wSr g q a)[b]? = _
  unfold wSr
  rw [List.getElem?_map, List.getElem?_range hb, Nat.add_comm b 4]
  rfl
theorem wS_len : (wS g q a sm).length = 4 + zNb a := by
  show (wSr g q a).length + 1 + 1 + 1 + 1 = _
  unfold wSr
  rw [List.length_map, List.length_range]
  omega
theorem wS_set_sum (x : Int) : (wS g q a sm).set 0 (q 0, .inr (3, [Value.ref (q 1), .ref (q 2), .ref (q 3), .int (iZ sm.1), .int (nI sm.2.1), .int (nI sm.2.2)].set 3 (.int (iZ x)))) = wS g q a (x, sm.2.1, sm.2.2) := rfl
theorem wS_set_many (x : Nat) : (wS g q a sm).set 0 (q 0, .inr (3, [Value.ref (q 1), .ref (q 2), .ref (q 3), .int (iZ sm.1), .int (nI sm.2.1), .int (nI sm.2.2)].set 4 (.int (nI x)))) = wS g q a (sm.1, x, sm.2.2) := rfl
theorem wS_set_set (x : Nat) : (wS g q a sm).set 0 (q 0, .inr (3, [Value.ref (q 1), .ref (q 2), .ref (q 3), .int (iZ sm.1), .int (nI sm.2.1), .int (nI sm.2.2)].set 5 (.int (nI x)))) = wS g q a (sm.1, sm.2.1, x) := rfl
theorem zmap_set {α : Type} (f f' : Nat → α) (n b : Nat) (v : α) (h1 : ∀ i, i < n → i ≠ b → f' i = f i) (h2 : b < n → f' b = v) : ((List.range n).map f).set b v = (List.range n).map f' := by
  apply List.ext_getElem?
  intro i
  by_cases hi : i < n
  · by_cases e : i = b
    · subst e
      rw [List.getElem?_set_self (by rw [List.length_map, List.length_range]; exact hi), List.getElem?_map, List.getElem?_range hi]
      exact congrArg some (h2 hi).symm
    · rw [List.getElem?_set_ne (fun h => e h.symm), List.getElem?_map, List.getElem?_map, List.getElem?_range hi]
      exact congrArg some (h1 i hi e).symm
  · rw [List.getElem?_eq_none (by rw [List.length_set, List.length_map, List.length_range]; omega), List.getElem?_eq_none (by rw [List.length_map, List.length_range]; omega)]
theorem wS_set_rs {f : Nat} (hf : f < zNf a) (x : Nat) : (wS g q a sm).set 1 (q 1, .inl (zI g, zNf a, .inl (upd (fun k => nI (zRf a k)) f (nI x)))) = wS g q (zSetRs a f x) sm := by
  have e : va_up (zRf a) f x = zRf (zSetRs a f x) := by
    funext k
    show va_up (zRf a) f x k = if k < zNf a then va_up (zRs a) f x k else 0
    unfold zRf va_up
    by_cases h : k = f
    · subst h; simp [hf]
    · simp [h]
  rw [zup_N, e]
  rfl
theorem wS_set_in (ha : zOk a) {d : Nat} (hd : d < zNd a) (v : Bool) : (wS g q a sm).set 2 (q 2, .inl (zZ g, zNd a, .inl (upd (fun k => bI (zIn a k)) d (bI v)))) = wS g q (zSetOu a (zOuIn (zOu a) d v)) sm := by
  rw [zup_B, zIn_setOu ha hd v]
  rfl
theorem wS_row_set {b : Nat} (hb : b < zNb a) {f : Nat → Int32} {a' : zS} (h0 : zNb a' = zNb a) (h1 : zNf a' = zNf a) (h2 : zRf a' = zRf a) (h3 : zNd a' = zNd a) (h4 : zIn a' = zIn a) (h5 : zRow a' b = f) (h6 : ∀ i, i ≠ b → zRow a' i = zRow a i) : (wS g q a sm).set (4 + b) (q (4 + b), .inl (zI g, 5, .inl f)) = wS g q a' sm := by
  rw [Nat.add_comm 4 b]
  unfold wS
  rw [List.set_cons_succ, List.set_cons_succ, List.set_cons_succ, List.set_cons_succ]
  have hp : zPt a' q = zPt a q := by unfold zPt; rw [h0]
  rw [h0, h1, h2, h3, h4, hp]
  congr 4
  unfold wSr
  rw [h0]
  refine zmap_set _ _ _ _ _ (fun i _ hne => ?_) (fun _ => ?_)
  · show (q (4 + i), _) = (q (4 + i), _)
    rw [h6 i hne]
  · show (q (4 + b), _) = (q (b + 4), _)
    rw [h5, Nat.add_comm 4 b]
theorem zRow_pr (b x : Nat) : zRow (zSetPr a b x) b = upd (zRow a b) 2 (nI x) := by
  funext j
  show zRow (zSetPr a b x) b j = if j = 2 then nI x else zRow a b j
  match j with
  | 0 => rfl
  | 1 => rfl
  | 2 => show nI (va_up (zPr a) b x b) = nI x; rw [va_up_self]
  | 3 => rfl
  | 4 => rfl
  | n + 5 => rfl
theorem zRow_wo (b x : Nat) : zRow (zSetWo a b x) b = upd (zRow a b) 3 (nI x) := by
  funext j
  show zRow (zSetWo a b x) b j = if j = 3 then nI x else zRow a b j
  match j with
  | 0 => rfl
  | 1 => rfl
  | 2 => rfl
  | 3 => show nI (va_up (zWo a) b x b) = nI x; rw [va_up_self]
  | 4 => rfl
  | n + 5 => rfl
theorem zRow_go (b x : Nat) : zRow (zSetGo a b x) b = upd (zRow a b) 4 (nI x) := by
  funext j
  show zRow (zSetGo a b x) b j = if j = 4 then nI x else zRow a b j
  match j with
  | 0 => rfl
  | 1 => rfl
  | 2 => rfl
  | 3 => rfl
  | 4 => show nI (va_up (zGo a) b x b) = nI x; rw [va_up_self]
  | n + 5 => rfl
theorem wS_set_pr {b : Nat} (hb : b < zNb a) (x : Nat) : (wS g q a sm).set (4 + b) (q (4 + b), .inl (zI g, 5, .inl (upd (zRow a b) 2 (nI x)))) = wS g q (zSetPr a b x) sm := by
  refine wS_row_set hb rfl rfl rfl rfl rfl (zRow_pr b x) (fun i hne => ?_)
  funext j
  match j with
  | 2 => show nI (va_up (zPr a) b x i) = nI (zPr a i); rw [va_up_ne _ _ hne]
  | 0 => rfl
  | 1 => rfl
  | 3 => rfl
  | 4 => rfl
  | n + 5 => rfl
theorem wS_set_wo {b : Nat} (hb : b < zNb a) (x : Nat) : (wS g q a sm).set (4 + b) (q (4 + b), .inl (zI g, 5, .inl (upd (zRow a b) 3 (nI x)))) = wS g q (zSetWo a b x) sm := by
  refine wS_row_set hb rfl rfl rfl rfl rfl (zRow_wo b x) (fun i hne => ?_)
  funext j
  match j with
  | 3 => show nI (va_up (zWo a) b x i) = nI (zWo a i); rw [va_up_ne _ _ hne]
  | 0 => rfl
  | 1 => rfl
  | 2 => rfl
  | 4 => rfl
  | n + 5 => rfl
theorem wS_set_go {b : Nat} (hb : b < zNb a) (x : Nat) : (wS g q a sm).set (4 + b) (q (4 + b), .inl (zI g, 5, .inl (upd (zRow a b) 4 (nI x)))) = wS g q (zSetGo a b x) sm := by
  refine wS_row_set hb rfl rfl rfl rfl rfl (zRow_go b x) (fun i hne => ?_)
  funext j
  match j with
  | 4 => show nI (va_up (zGo a) b x i) = nI (zGo a i); rw [va_up_ne _ _ hne]
  | 0 => rfl
  | 1 => rfl
  | 2 => rfl
  | 3 => rfl
  | n + 5 => rfl
end WS
section ZRX
variable {g : zG} {l : Launch} {R : Room} {E : zEnv} {Q : State → Prop} {nL cells slots : Nat} {ws w2 : va_W} {lv : List (Nat × Value)} {st : List Value} {pc : Nat}
/-- the world told anew: each of its things from its place in the old -/
theorem zW.reidx (f : Nat → Nat) (hi : ∀ i j, i < w2.length → j < w2.length → f i = f j → i = j) (h : ∀ (i : Nat) (e : Nat × va_E), w2[i]? = some e → ws[f i]? = some e) (k : zW g l R E Q nL cells slots w2 lv st pc) : zW g l R E Q nL cells slots ws lv st pc :=
  fun H locs ls hP hD hS hl => k H locs ls (fun i e he => hP _ e (h i e he)) ⟨fun i j x y hx hy e => hi i j (List.getElem?_eq_some_iff.mp hx).1 (List.getElem?_eq_some_iff.mp hy).1 (hD.1 _ _ x y (h i x hx) (h j y hy) e), fun i e he => hD.2 _ e (h i e he)⟩ hS hl
end ZRX
/-! choosing bidder by bidder finds the same set -/
def zT3 (x : Int × Nat) : Int × Nat × Nat := (x.1, zPop x.2 12, x.2)
def zCk (x y : Int × Nat × Nat) : Int × Nat × Nat := if y.1 < x.1 ∨ (y.1 = x.1 ∧ (y.2.1 < x.2.1 ∨ (y.2.1 = x.2.1 ∧ x.2.2 < y.2.2))) then x else y
theorem zCk_T (x : Int × Nat) (gi : Int) (m : Nat) : zCk (zT3 x) (gi, zPop m 12, m) = zT3 (zCons x (gi, m)) := by
  unfold zCk zCons
  by_cases h : zBt x (gi, m) = true
  · rw [if_pos h, if_neg]
    · rfl
    · have h1 := zBt_anti h
      have h2 : ¬ zBt x (gi, m) = false := by rw [h]; decide
      rw [zBt_f] at h1 h2
      show ¬ (gi < x.1 ∨ (gi = x.1 ∧ (zPop m 12 < zPop x.2 12 ∨ (zPop m 12 = zPop x.2 12 ∧ x.2 < m))))
      have h3 : gi = (gi, m).1 := rfl
      have h4 : m = (gi, m).2 := rfl
      simp only at h1 h2
      omega
  · rw [if_neg h]
    have h1 : zBt x (gi, m) = false := by simpa using h
    have h2 := h1
    rw [zBt_f] at h1
    simp only at h1
    by_cases h3 : gi = x.1 ∧ m = x.2
    · obtain ⟨e1, e2⟩ := h3
      subst e1; subst e2
      split <;> rfl
    · rw [if_pos]
      show gi < x.1 ∨ (gi = x.1 ∧ (zPop m 12 < zPop x.2 12 ∨ (zPop m 12 = zPop x.2 12 ∧ x.2 < m)))
      omega
def zChf {α : Type} (f : α → Nat → α) : Nat → α → α
  | 0, x => x
  | n + 1, x => f (zChf f n x) n
/-- what choosing for the bidders from who on makes of x -/
def zCh (a : zS) (wo : Int) : Nat → (Int × Nat × Nat) → Nat → Nat → Int → Nat → Nat → (Int × Nat × Nat)
  | 0, x, _, _, gi, n, m => zCk x (gi, n, m)
  | k + 1, x, who, tf, gi, n, m => if (who : Int) = wo then zCh a wo k x (who + 1) tf gi n m else
      zChf (fun y b => if zOw a b = who ∧ zCn a (zOu a) b = true ∧ zBu a b &&& tf = 0 then zCh a wo k y (who + 1) (tf ||| zBu a b) (gi + zGn a b) (n + 1) (m + 2 ^ b) else y) (zNb a) (zCh a wo k x (who + 1) tf gi n m)
/-- n has m, and besides bids of bidders from who on alone -/
def fEx (a : zS) (n m who : Nat) : Prop := ∀ c, m.testBit c = true ↔ (n.testBit c = true ∧ zOw a c < who)
theorem zCh_max {a : zS} (ha : zOk a) (wo : Int) (o : Nat) (ho : ∀ b, b < zNb a → (zCn a o b = true ↔ (zCn a (zOu a) b = true ∧ (zOw a b : Int) ≠ wo))) : ∀ (k : Nat) (x : Int × Nat) (who tf : Nat) (gi : Int) (m : Nat), who + k = zNd a → fFe a o m → fTf a m tf → (∀ c, m.testBit c = true → zOw a c < who) → gi = fGa a m →
    ∃ y, zCh a wo k (zT3 x) who tf gi (zPop m 12) m = zT3 y ∧ (y = x ∨ ∃ n, fFe a o n ∧ y = (fGa a n, n)) ∧ zBt y x = false ∧ ∀ n, fFe a o n → fEx a n m who → zBt y (fGa a n, n) = false := by
  intro k
  induction k with
  | zero =>
    intro x who tf gi m hk hf h1 h2 h3
    refine ⟨zCons x (gi, m), zCk_T x gi m, ?_, zCons_l _ _, fun n hn he => ?_⟩
    · rcases zCons_or x (gi, m) with e | e
      · exact Or.inl e
      · exact Or.inr ⟨m, hf, by rw [e, h3]⟩
    · have e : n = m := by
        apply Nat.eq_of_testBit_eq
        intro c
        have h4 := he c
        by_cases hc : n.testBit c = true
        · have h5 := ha.ow (zbit_lt hn.1 hc)
          rw [hc, h4.mpr ⟨hc, by omega⟩]
        · have h5 : ¬ m.testBit c = true := fun h => hc (h4.mp h).1
          rw [Bool.not_eq_true] at hc h5
          rw [hc, h5]
      subst e
      rw [← h3]
      exact zCons_r _ _
  | succ k ih =>
    intro x who tf gi m hk hf h1 h2 h3
    have hnb := ha.2.2.1
    obtain ⟨y1, e1, g1, g2, g3⟩ := ih x (who + 1) tf gi m (by omega) hf h1 (fun c hc => by have := h2 c hc; omega) h3
    -- a set without a bid of who
    have hno : ∀ n, fFe a o n → fEx a n m who → (∀ b, n.testBit b = true → zOw a b ≠ who) → zBt y1 (fGa a n, n) = false := by
      intro n hn he hne
      refine g3 n hn (fun c => ?_)
      rw [he c]
      constructor
      · rintro ⟨q1, q2⟩; exact ⟨q1, by omega⟩
      · rintro ⟨q1, q2⟩; exact ⟨q1, by have := hne c q1; omega⟩
    show ∃ y, (if (who : Int) = wo then zCh a wo k (zT3 x) (who + 1) tf gi (zPop m 12) m else _) = zT3 y ∧ _
    by_cases hw : (who : Int) = wo
    · rw [if_pos hw]
      refine ⟨y1, e1, g1, g2, fun n hn he => hno n hn he (fun b hb e => ?_)⟩
      have h4 := (ho b (zbit_lt hn.1 hb)).mp (hn.2.1 b hb)
      exact h4.2 (by rw [e]; exact hw)
    · rw [if_neg hw, e1]
      generalize hF : (fun (y : Int × Nat × Nat) (b : Nat) => if zOw a b = who ∧ zCn a (zOu a) b = true ∧ zBu a b &&& tf = 0 then zCh a wo k y (who + 1) (tf ||| zBu a b) (gi + zGn a b) (zPop m 12 + 1) (m + 2 ^ b) else y) = F
      have fold : ∀ N, N ≤ zNb a → ∃ y, zChf F N (zT3 y1) = zT3 y ∧ (y = y1 ∨ ∃ n, fFe a o n ∧ y = (fGa a n, n)) ∧ zBt y y1 = false ∧ ∀ b n, b < N → fFe a o n → fEx a n m who → n.testBit b = true → zOw a b = who → zBt y (fGa a n, n) = false := by
        intro N
        induction N with
        | zero => exact fun _ => ⟨y1, rfl, Or.inl rfl, zBt_refl _, fun b n hb => absurd hb (Nat.not_lt_zero b)⟩
        | succ N ihN =>
          intro hN
          obtain ⟨y, f1, f2, f3, f4⟩ := ihN (by omega)
          have hs : zChf F (N + 1) (zT3 y1) = F (zT3 y) N := by
            show F (zChf F N (zT3 y1)) N = _
            rw [f1]
          rw [hs, ← hF]
          by_cases hc : zOw a N = who ∧ zCn a (zOu a) N = true ∧ zBu a N &&& tf = 0
          · have hmb : m.testBit N = false := by
              rw [← Bool.not_eq_true]
              intro h
              have := h2 N h
              omega
            have hm12 : m < 4096 := Nat.lt_of_lt_of_le hf.1 (zp2_le (k := 12) hnb)
            have hadd := zadd_or hm12 (by omega) hmb
            have hfe : fFe a o (m ||| 2 ^ N) := by
              refine (fFe_add (by omega) hf hmb).mpr ⟨(ho N (by omega)).mpr ⟨hc.2.1, by rw [hc.1]; exact hw⟩, fun c hcm => ⟨?_, ?_⟩⟩
              · have := h2 c hcm; omega
              · have h5 := hc.2.2
                rw [Nat.and_comm] at h5
                exact (fTf_0iff h1).mp h5 c hcm
            obtain ⟨y2, p1, p2, p3, p4⟩ := ih y (who + 1) (tf ||| zBu a N) (gi + zGn a N) (m ||| 2 ^ N) (by omega) hfe (fTf_or h1) (fun c hcm => by
              rw [zor_bit, Bool.or_eq_true, decide_eq_true_eq] at hcm
              rcases hcm with hcm | hcm
              · have := h2 c hcm; omega
              · subst hcm; omega) (by rw [h3, fGa_or hmb (by omega)])
            have hpop : zPop (m ||| 2 ^ N) 12 = zPop m 12 + 1 := by rw [zPop_or hmb, if_pos (by omega)]
            rw [hpop] at p1
            refine ⟨y2, ?_, ?_, zBt_trans p3 f3, fun b n hb hn he hbn how => ?_⟩
            · show (if zOw a N = who ∧ zCn a (zOu a) N = true ∧ zBu a N &&& tf = 0 then zCh a wo k (zT3 y) (who + 1) (tf ||| zBu a N) (gi + zGn a N) (zPop m 12 + 1) (m + 2 ^ N) else zT3 y) = _
              rw [if_pos hc, hadd, p1]
            · rcases p2 with e | h
              · rw [e]; exact f2
              · exact Or.inr h
            · by_cases eb : b = N
              · subst eb
                refine p4 n hn (fun c => ?_)
                rw [zor_bit, Bool.or_eq_true, decide_eq_true_eq, he c]
                constructor
                · rintro (⟨q1, q2⟩ | q1)
                  · exact ⟨q1, by omega⟩
                  · subst q1; exact ⟨hbn, by omega⟩
                · rintro ⟨q1, q2⟩
                  by_cases q3 : zOw a c < who
                  · exact Or.inl ⟨q1, q3⟩
                  · refine Or.inr ?_
                    by_cases q4 : b = c
                    · exact q4
                    · exact absurd (show zOw a b = zOw a c by omega) (hn.2.2 b c hbn q1 q4).1
              · exact zBt_trans p3 (f4 b n (by omega) hn he hbn how)
          · refine ⟨y, ?_, f2, f3, fun b n hb hn he hbn how => ?_⟩
            · show (if zOw a N = who ∧ zCn a (zOu a) N = true ∧ zBu a N &&& tf = 0 then _ else zT3 y) = _
              rw [if_neg hc]
            · by_cases eb : b = N
              · subst eb
                refine absurd ⟨how, ?_, ?_⟩ hc
                · exact ((ho b (by omega)).mp (hn.2.1 b hbn)).1
                · rw [Nat.and_comm]
                  refine (fTf_0iff h1).mpr (fun c hcm => ?_)
                  have h5 := (he c).mp hcm
                  exact (hn.2.2 c b h5.1 hbn (fun e => by rw [e] at h5; omega)).2
              · exact f4 b n (by omega) hn he hbn how
      obtain ⟨y, f1, f2, f3, f4⟩ := fold (zNb a) (Nat.le_refl _)
      refine ⟨y, f1, ?_, zBt_trans f3 g2, fun n hn he => ?_⟩
      · rcases f2 with e | h
        · rw [e]; exact g1
        · exact Or.inr h
      · by_cases hb : ∃ b, n.testBit b = true ∧ zOw a b = who
        · obtain ⟨b, hb1, hb2⟩ := hb
          exact f4 b n (zbit_lt hn.1 hb1) hn he hb1 hb2
        · exact zBt_trans f3 (hno n hn he (fun b h1 h2 => hb ⟨b, h1, h2⟩))
theorem zCh_best {a : zS} (ha : zOk a) (wo : Int) (ab : Nat) (ho : ∀ b, b < zNb a → (zCn a (zOu a ||| ab) b = true ↔ (zCn a (zOu a) b = true ∧ (zOw a b : Int) ≠ wo))) : zCh a wo (zNd a) (0, 0, 0) 0 0 0 0 0 = zT3 (zFw a ab) := by
  obtain ⟨y, h1, h2, h3, h4⟩ := zCh_max ha wo (zOu a ||| ab) ho (zNd a) (0, 0) 0 0 0 0 (by omega) (fFe_0 _ _) (fTf_0 a) (fun c h => by rw [Nat.zero_testBit] at h; cases h) (fGa_0 a).symm
  have e0 : zT3 ((0 : Int), (0 : Nat)) = (0, 0, 0) := by unfold zT3; rw [zPop_0]
  rw [zPop_0, e0] at h1
  rw [h1]
  congr 1
  have hex : ∀ n, fEx a n 0 0 := fun n c => by simp
  refine zFw_is ha ab ?_ ?_ (fun n hn => h4 n hn (hex n))
  · rcases h2 with e | ⟨n, -, e⟩
    · rw [e, fGa_0]
    · rw [e]
  · rcases h2 with e | ⟨n, hn, e⟩
    · rw [e]; exact fFe_0 _ _
    · rw [e]; exact hn
/-- the sale with all -/
theorem zCh_all {a : zS} (ha : zOk a) : zCh a (-1) (zNd a) (0, 0, 0) 0 0 0 0 0 = zT3 (zFw a 0) :=
  zCh_best ha (-1) 0 (fun b _ => by
    rw [Nat.or_zero]
    exact ⟨fun h => ⟨h, by omega⟩, fun h => h.1⟩)
/-- the sale without one -/
theorem zCh_wo {a : zS} (ha : zOk a) (d : Nat) : zCh a (d : Int) (zNd a) (0, 0, 0) 0 0 0 0 0 = zT3 (zFw a (2 ^ d)) :=
  zCh_best ha (d : Int) (2 ^ d) (fun b _ => by
    rw [zCn_out, zpow_bit, Bool.and_eq_true, Bool.not_eq_true', decide_eq_false_iff_not]
    constructor
    · rintro ⟨h1, h2⟩; exact ⟨h1, by omega⟩
    · rintro ⟨h1, h2⟩; exact ⟨h1, by omega⟩)
