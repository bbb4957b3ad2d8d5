theorem zCnt_cong {p p' : Nat → Bool} : ∀ n, (∀ i, i < n → p i = p' i) → zCnt p n = zCnt p' n
  | 0, _ => rfl
  | n + 1, h => by
    unfold zCnt
    rw [zCnt_cong n (fun i hi => h i (by omega)), h n (by omega)]
theorem zSum_add (f h : Nat → Nat) : ∀ n, zSum (fun i => f i + h i) n = zSum f n + zSum h n
  | 0 => rfl
  | n + 1 => by
    unfold zSum
    rw [zSum_add f h n]
    omega
theorem zSum_one (o : Nat) : ∀ n, zSum (fun d => if o = d then 1 else 0) n = if o < n then 1 else 0
  | 0 => by simp [zSum]
  | n + 1 => by
    unfold zSum
    rw [zSum_one o n]
    by_cases h : o < n
    · rw [if_pos h, if_neg (by omega), if_pos (by omega)]
    · rw [if_neg h]
      by_cases h2 : o = n
      · rw [if_pos h2, if_pos (by omega)]
      · rw [if_neg h2, if_neg (by omega)]
theorem zSum_0 : ∀ n, zSum (fun _ => 0) n = 0
  | 0 => rfl
  | n + 1 => by
    unfold zSum
    rw [zSum_0 n]
theorem zLof_all (a : zS) : ∀ n, (∀ b, b < n → zOw a b < zNd a) → zSum (fun d => zCnt (fun b => decide (zOw a b = d) && zGo a b == 0) n) (zNd a) = zCnt (fun b => zGo a b == 0) n
  | 0, _ => zSum_0 _
  | n + 1, h => by
    have h1 := zLof_all a n (fun b hb => h b (by omega))
    have e : (fun d => zCnt (fun b => decide (zOw a b = d) && zGo a b == 0) (n + 1)) = fun d => zCnt (fun b => decide (zOw a b = d) && zGo a b == 0) n + (if (decide (zOw a n = d) && zGo a n == 0) = true then 1 else 0) := rfl
    rw [e, zSum_add, h1]
    show _ = zCnt (fun b => zGo a b == 0) n + (if (zGo a n == 0) = true then 1 else 0)
    by_cases hg : (zGo a n == 0) = true
    · rw [if_pos hg]
      congr 1
      have e2 : (fun d => if (decide (zOw a n = d) && zGo a n == 0) = true then 1 else 0) = fun d => if zOw a n = d then 1 else 0 := by
        funext d
        rw [hg]
        by_cases hd : zOw a n = d <;> simp [hd]
      rw [e2, zSum_one, if_pos (h n (by omega))]
    · rw [if_neg hg]
      have e2 : (fun d => if (decide (zOw a n = d) && zGo a n == 0) = true then 1 else 0) = fun _ => 0 := by
        funext d
        rw [if_neg (by simp [hg])]
      rw [e2, zSum_0]
/-- how many bids are left, counted as the reference does -/
def mLeft (a : zS) : Nat → Nat
  | 0 => 0
  | n + 1 => mLeft a n + (1 - zGo a n)
theorem mLeft_cnt {a : zS} : ∀ n, (∀ b, b < n → zGo a b ≤ 1) → mLeft a n = zCnt (fun b => zGo a b == 0) n
  | 0, _ => rfl
  | n + 1, h => by
    unfold mLeft zCnt
    rw [mLeft_cnt n (fun b hb => h b (by omega))]
    have h1 := h n (by omega)
    rcases Nat.eq_zero_or_pos (zGo a n) with e | e
    · rw [e]; rfl
    · rw [show zGo a n = 1 by omega]; rfl
theorem mLeft_eq {a : zS} (ha : zOk a) : mLeft a (zNb a) = zSum (zLof a) (zNd a) := by
  rw [mLeft_cnt _ (fun b hb => ha.go hb)]
  exact (zLof_all a _ (fun b hb => ha.ow hb)).symm
/-- the law's world: both have the same sale -/
def zBoth (g : zG) (q : Nat → Nat) (p0 : Nat) : va_W → Prop := fun w' => ∃ (a : zS) (p : Nat → Nat) (bs : Nat → Int × Nat) (wb pd gw : Nat → Nat → Int) (sm : Int × Nat × Nat), w' = wB g q a (zG0 a) bs wb pd gw ++ wS g p a sm ∧ p 0 = p0 ∧ zInv a ∧ zSet a bs wb pd gw 0 0
theorem wS_cases {g : zG} {q : Nat → Nat} {a : zS} {sm : Int × Nat × Nat} {j : Nat} {e : Nat × va_E} (h : (wS g q a sm)[j]? = some e) : (j = 0 ∧ (wS g q a sm)[0]? = some e) ∨ (j = 1 ∧ (wS g q a sm)[1]? = some e) ∨ (j = 2 ∧ (wS g q a sm)[2]? = some e) ∨ (j = 3 ∧ (wS g q a sm)[3]? = some e) ∨ ∃ b, b < zNb a ∧ j = 4 + b ∧ (wS g q a sm)[4 + b]? = some e := by
  have h1 := (List.getElem?_eq_some_iff.mp h).1
  rw [wS_len] at h1
  match j, h, h1 with
  | 0, h, _ => exact Or.inl ⟨rfl, h⟩
  | 1, h, _ => exact Or.inr (Or.inl ⟨rfl, h⟩)
  | 2, h, _ => exact Or.inr (Or.inr (Or.inl ⟨rfl, h⟩))
  | 3, h, _ => exact Or.inr (Or.inr (Or.inr (Or.inl ⟨rfl, h⟩)))
  | n + 4, h, h1 => exact Or.inr (Or.inr (Or.inr (Or.inr ⟨n, by omega, by omega, by rw [Nat.add_comm 4 n]; exact h⟩)))
section ZNS
variable {g : zG} {l : Launch} {R : Room} {E : zEnv} {Q : State → Prop} {nL cells slots : Nat} {X : va_W} {lv : List (Nat × Value)} {st : List Value} {pc : Nat}
variable {q p p' : Nat → Nat} {a a' : zS} {G : Nat → Int} {bs : Nat → Int × Nat} {wb pd gw : Nat → Nat → Int} {sm sm' : Int × Nat × Nat}
/-- the sale's cells are others now -/
theorem zW.newS (F : Nat → Nat) (hi : ∀ i j, i < 4 + zNb a' → j < 4 + zNb a' → F i = F j → i = j) (h : ∀ (j : Nat) (e : Nat × va_E), (wS g p' a' sm')[j]? = some e → X[F j]? = some e) (k : zW g l R E Q nL cells slots (wB g q a G bs wb pd gw ++ wS g p' a' sm') lv st pc) : zW g l R E Q nL cells slots (wB g q a G bs wb pd gw ++ X) lv st pc := by
  have hB : (wB g q a G bs wb pd gw).length = 20 := rfl
  refine zW.reidx (fun i => if i < 20 then i else 20 + F (i - 20)) (fun i j h1 h2 h3 => ?_) (fun i e he => ?_) k
  · rw [List.length_append, hB, wS_len] at h1 h2
    have h4 : (if i < 20 then i else 20 + F (i - 20)) = (if j < 20 then j else 20 + F (j - 20)) := h3
    by_cases c1 : i < 20 <;> by_cases c2 : j < 20
    · rw [if_pos c1, if_pos c2] at h4; exact h4
    · rw [if_pos c1, if_neg c2] at h4; omega
    · rw [if_neg c1, if_pos c2] at h4; omega
    · rw [if_neg c1, if_neg c2] at h4
      have := hi (i - 20) (j - 20) (by omega) (by omega) (by omega)
      omega
  · show (wB g q a G bs wb pd gw ++ X)[if i < 20 then i else 20 + F (i - 20)]? = some e
    by_cases c1 : i < 20
    · rw [if_pos c1]
      rw [List.getElem?_append_left (by rw [hB]; exact c1)] at he
      exact zapp_l he
    · rw [if_neg c1]
      rw [List.getElem?_append_right (by rw [hB]; omega), hB] at he
      exact zapp_B (h _ e he)
end ZNS
def zAF (a : zS) (r : Nat) : zS := zSetNf (zSetRs a (zNf a) r) (zNf a + 1)
theorem zRf_AF (a : zS) (r : Nat) : zRf (zAF a r) = zWh (zNf a) (zRf a) r := by
  funext j
  show (if j < zNf a + 1 then va_up (zRs a) (zNf a) r j else 0) = if j < zNf a then zRf a j else if j = zNf a then r else 0
  unfold zRf va_up
  by_cases h : j < zNf a
  · rw [if_pos (by omega), if_neg (by omega), if_pos h, if_pos h]
  · by_cases h2 : j = zNf a
    · rw [if_pos (by omega), if_pos h2, if_neg h, if_pos h2]
    · rw [if_neg (by omega), if_neg h, if_neg h2]
theorem zRf_at {a : zS} {f : Nat} (h : f < zNf a) : zRf a f = zRs a f := if_pos h
/-- the sale's object, with other cells -/
def zOb (p1 p2 p3 : Nat) (sm : Int × Nat × Nat) : va_E := .inr (3, [.ref p1, .ref p2, .ref p3, .int (iZ sm.1), .int (nI sm.2.1), .int (nI sm.2.2)])
section ZNT
variable {g : zG} {l : Launch} {R : Room} {E : zEnv} {Q : State → Prop} {nL cells slots : Nat} {lv : List (Nat × Value)} {st : List Value} {pc : Nat}
variable {q p : Nat → Nat} {a a0 : zS} {G : Nat → Int} {bs : Nat → Int × Nat} {wb pd gw : Nat → Nat → Int} {sm : Int × Nat × Nat}
theorem zset0_ne {j : Nat} {e e9 : Nat × va_E} (h : (wS g p a sm)[j]? = some e) (hj : j ≠ 0) : ((wS g p a sm).set 0 e9)[j]? = some e := by rw [List.getElem?_set_ne (fun h9 => hj h9.symm)]; exact h
theorem zset0_self {e9 : Nat × va_E} : ((wS g p a sm).set 0 e9)[0]? = some e9 := rfl
theorem zset0_len {e9 : Nat × va_E} : ((wS g p a sm).set 0 e9).length = 4 + zNb a := by rw [List.length_set, wS_len]
theorem zset0_new {e9 : Nat × va_E} {L : va_W} {k : Nat} {e : Nat × va_E} (h : L[k]? = some e) : ((wS g p a sm).set 0 e9 ++ L)[4 + zNb a + k]? = some e := by
  have h1 := zapp_r (a := (wS g p a sm).set 0 e9) h
  rw [zset0_len] at h1
  exact h1
theorem zNewRs {x r : Nat} (k : ∀ p' : Nat → Nat, p' 0 = p 0 → zW g l R E Q nL cells slots (wB g q a0 G bs wb pd gw ++ wS g p' (zAF a r) sm) lv st pc) : zW g l R E Q nL cells slots (wB g q a0 G bs wb pd gw ++ ((wS g p a sm).set 0 (p 0, zOb x (p 2) (p 3) sm) ++ [(x, .inl (zI g, zNf a + 1, .inl (fun j => nI (zWh (zNf a) (zRf a) r j))))])) lv st pc := by
  refine zW.newS (a' := zAF a r) (p' := va_up p 1 x) (sm' := sm) (fun i => if i = 1 then 4 + zNb a else i) (fun i j h1 h2 h3 => ?_) (fun j e he => ?_) (k _ rfl)
  · have h4 : (if i = 1 then 4 + zNb a else i) = (if j = 1 then 4 + zNb a else j) := h3
    have e1 : zNb (zAF a r) = zNb a := rfl
    rw [e1] at h1 h2
    split at h4 <;> split at h4 <;> omega
  · show _[if j = 1 then 4 + zNb a else j]? = some e
    rcases wS_cases he with ⟨rfl, h⟩ | ⟨rfl, h⟩ | ⟨rfl, h⟩ | ⟨rfl, h⟩ | ⟨b, hb, rfl, h⟩
    · exact h
    · rw [if_pos rfl]
      have e1 : (x, .inl (zI g, zNf a + 1, .inl (fun j => nI (zWh (zNf a) (zRf a) r j)))) = e := by
        rw [← zRf_AF]; exact Option.some.inj h
      rw [← e1]
      exact zset0_new (k := 0) rfl
    · exact h
    · have e3 : zPt (zAF a r) (va_up p 1 x) = zPt a p := by
        funext i
        show (if i < zNb a then some (va_up p 1 x (4 + i)) else none) = if i < zNb a then some (p (4 + i)) else none
        rw [va_up_ne _ _ (by omega)]
      rw [wS_bi, e3] at h
      rw [← h]; rfl
    · rw [if_neg (by omega)]
      have hb2 : b < zNb a := hb
      refine zapp_l (zset0_ne ?_ (by omega))
      have h5 := wS_row (g := g) (q := va_up p 1 x) (a := zAF a r) (sm := sm) hb
      rw [h5] at h
      rw [← h, wS_row hb2]
      show some (p (4 + b), _) = some (va_up p 1 x (4 + b), _)
      rw [va_up_ne _ _ (by omega)]
      rfl
theorem zNewIn {x : Nat} (ha : zOk a) (k : ∀ p' : Nat → Nat, p' 0 = p 0 → zW g l R E Q nL cells slots (wB g q a0 G bs wb pd gw ++ wS g p' (zSetNd a (zNd a + 1)) sm) lv st pc) : zW g l R E Q nL cells slots (wB g q a0 G bs wb pd gw ++ ((wS g p a sm).set 0 (p 0, zOb (p 1) x (p 3) sm) ++ [(x, .inl (zZ g, zNd a + 1, .inl (fun j => bI (zIn (zSetNd a (zNd a + 1)) j))))])) lv st pc := by
  refine zW.newS (a' := zSetNd a (zNd a + 1)) (p' := va_up p 2 x) (sm' := sm) (fun i => if i = 2 then 4 + zNb a else i) (fun i j h1 h2 h3 => ?_) (fun j e he => ?_) (k _ rfl)
  · have h4 : (if i = 2 then 4 + zNb a else i) = (if j = 2 then 4 + zNb a else j) := h3
    have e1 : zNb (zSetNd a (zNd a + 1)) = zNb a := rfl
    rw [e1] at h1 h2
    split at h4 <;> split at h4 <;> omega
  · show _[if j = 2 then 4 + zNb a else j]? = some e
    rcases wS_cases he with ⟨rfl, h⟩ | ⟨rfl, h⟩ | ⟨rfl, h⟩ | ⟨rfl, h⟩ | ⟨b, hb, rfl, h⟩
    · exact h
    · exact h
    · rw [if_pos rfl, ← Option.some.inj h]
      exact zset0_new (k := 0) rfl
    · have e3 : zPt (zSetNd a (zNd a + 1)) (va_up p 2 x) = zPt a p := by
        funext i
        show (if i < zNb a then some (va_up p 2 x (4 + i)) else none) = if i < zNb a then some (p (4 + i)) else none
        rw [va_up_ne _ _ (by omega)]
      rw [wS_bi, e3] at h
      rw [← h]; rfl
    · rw [if_neg (by omega)]
      have hb2 : b < zNb a := hb
      refine zapp_l (zset0_ne ?_ (by omega))
      have h5 := wS_row (g := g) (q := va_up p 2 x) (a := zSetNd a (zNd a + 1)) (sm := sm) hb
      rw [h5] at h
      rw [← h, wS_row hb2]
      show some (p (4 + b), _) = some (va_up p 2 x (4 + b), _)
      rw [va_up_ne _ _ (by omega)]
      rfl
/-- the row of a new bid -/
theorem zRow_bid {d m y : Nat} (hi : zInv a) : upd (upd (upd (upd (upd (fun _ => nI 0) 0 (nI d)) 1 (nI m)) 2 (nI y)) 3 (nI y)) 4 (nI 0) = zRow (zBid a d m y) (zNb a) := by
  funext j
  match j with
  | 0 => show nI d = nI (va_up (zOw a) (zNb a) d (zNb a)); rw [va_up_self]
  | 1 => show nI m = nI (va_up (zBu a) (zNb a) m (zNb a)); rw [va_up_self]
  | 2 => show nI y = nI (va_up (zPr a) (zNb a) y (zNb a)); rw [va_up_self]
  | 3 => show nI y = nI (va_up (zWo a) (zNb a) y (zNb a)); rw [va_up_self]
  | 4 => show nI 0 = nI (zGo a (zNb a)); rw [hi.2 _ (Nat.le_refl _)]
  | n + 5 => rfl
theorem zRow_old {d m y b : Nat} (hb : b ≠ zNb a) : zRow (zBid a d m y) b = zRow a b := by
  funext j
  match j with
  | 0 => show nI (va_up (zOw a) (zNb a) d b) = nI (zOw a b); rw [va_up_ne _ _ hb]
  | 1 => show nI (va_up (zBu a) (zNb a) m b) = nI (zBu a b); rw [va_up_ne _ _ hb]
  | 2 => show nI (va_up (zPr a) (zNb a) y b) = nI (zPr a b); rw [va_up_ne _ _ hb]
  | 3 => show nI (va_up (zWo a) (zNb a) y b) = nI (zWo a b); rw [va_up_ne _ _ hb]
  | 4 => rfl
  | n + 5 => rfl
/-- the addresses of the first i rows -/
def zPa (p : Nat → Nat) (i : Nat) : Nat → Option Nat := fun j => if j < i then some (p (4 + j)) else none
theorem zPa_0 (p : Nat → Nat) : (fun _ => none) = zPa p 0 := by
  funext j
  show none = if j < 0 then _ else none
  rw [if_neg (by omega)]
theorem zPa_s (p : Nat → Nat) (i : Nat) : va_up (zPa p i) i (some (p (4 + i))) = zPa p (i + 1) := by
  funext j
  show (if j = i then some (p (4 + i)) else if j < i then some (p (4 + j)) else none) = if j < i + 1 then some (p (4 + j)) else none
  by_cases h : j = i
  · subst h; rw [if_pos rfl, if_pos (by omega)]
  · rw [if_neg h]
    by_cases h2 : j < i
    · rw [if_pos h2, if_pos (by omega)]
    · rw [if_neg h2, if_neg (by omega)]
theorem zNewBi {x y d m v : Nat} (hi : zInv a) (k : ∀ p' : Nat → Nat, p' 0 = p 0 → zW g l R E Q nL cells slots (wB g q a0 G bs wb pd gw ++ wS g p' (zBid a d m v) sm) lv st pc) : zW g l R E Q nL cells slots (wB g q a0 G bs wb pd gw ++ ((wS g p a sm).set 0 (p 0, zOb (p 1) (p 2) x sm) ++ [(x, .inl (zJ g, zNb a + 1, .inr (.inr (.inr (.inr (va_up (zPa p (zNb a)) (zNb a) (some y))))))), (y, .inl (zI g, 5, .inl (zRow (zBid a d m v) (zNb a))))])) lv st pc := by
  refine zW.newS (a' := zBid a d m v) (p' := va_up (va_up p 3 x) (4 + zNb a) y) (sm' := sm) (fun i => if i = 3 then 4 + zNb a else if i = 4 + zNb a then 4 + zNb a + 1 else i) (fun i j h1 h2 h3 => ?_) (fun j e he => ?_) (k _ (by rw [va_up_ne _ _ (by omega)]; rfl))
  · have h4 : (if i = 3 then 4 + zNb a else if i = 4 + zNb a then 4 + zNb a + 1 else i) = (if j = 3 then 4 + zNb a else if j = 4 + zNb a then 4 + zNb a + 1 else j) := h3
    have e1 : zNb (zBid a d m v) = zNb a + 1 := rfl
    rw [e1] at h1 h2
    split at h4 <;> split at h4 <;> (try split at h4) <;> (try split at h4) <;> omega
  · show _[if j = 3 then 4 + zNb a else if j = 4 + zNb a then 4 + zNb a + 1 else j]? = some e
    have n0 : va_up (va_up p 3 x) (4 + zNb a) y 0 = p 0 := by rw [va_up_ne _ _ (by omega)]; rfl
    have n1 : va_up (va_up p 3 x) (4 + zNb a) y 1 = p 1 := by rw [va_up_ne _ _ (by omega)]; rfl
    have n2 : va_up (va_up p 3 x) (4 + zNb a) y 2 = p 2 := by rw [va_up_ne _ _ (by omega)]; rfl
    have n3 : va_up (va_up p 3 x) (4 + zNb a) y 3 = x := by rw [va_up_ne _ _ (by omega)]; rfl
    rcases wS_cases he with ⟨rfl, h⟩ | ⟨rfl, h⟩ | ⟨rfl, h⟩ | ⟨rfl, h⟩ | ⟨b, hb, rfl, h⟩
    · rw [if_neg (by omega), if_neg (by omega)]
      rw [wS_o, n0, n1, n2, n3] at h
      rw [← h]; rfl
    · rw [if_neg (by omega), if_neg (by omega)]
      rw [wS_rs, n1] at h
      rw [← h]; rfl
    · rw [if_neg (by omega), if_neg (by omega)]
      rw [wS_in, n2] at h
      rw [← h]; rfl
    · rw [if_pos rfl]
      rw [wS_bi, n3] at h
      rw [← h]
      have e2 : va_up (zPa p (zNb a)) (zNb a) (some y) = zPt (zBid a d m v) (va_up (va_up p 3 x) (4 + zNb a) y) := by
        funext j
        show (if j = zNb a then some y else if j < zNb a then some (p (4 + j)) else none) = if j < zNb a + 1 then some (va_up (va_up p 3 x) (4 + zNb a) y (4 + j)) else none
        by_cases c : j = zNb a
        · subst c
          rw [if_pos rfl, if_pos (by omega), va_up_self]
        · rw [if_neg c]
          by_cases c2 : j < zNb a
          · rw [if_pos c2, if_pos (by omega), va_up_ne _ _ (by omega), va_up_ne _ _ (by omega)]
          · rw [if_neg c2, if_neg (by omega)]
      rw [← e2]
      exact zset0_new (k := 0) rfl
    · rw [if_neg (by omega)]
      rw [wS_row hb] at h
      rw [← h]
      by_cases c : b = zNb a
      · subst c
        rw [if_pos rfl, va_up_self]
        exact zset0_new (k := 1) rfl
      · have e1 : zNb (zBid a d m v) = zNb a + 1 := rfl
        have hb2 : b < zNb a := by omega
        rw [if_neg (by omega), va_up_ne _ _ (by omega), va_up_ne _ _ (by omega), zRow_old c]
        exact zapp_l (zset0_ne (wS_row hb2) (by omega))
end ZNT
