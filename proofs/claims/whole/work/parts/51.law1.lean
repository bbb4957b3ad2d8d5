def sp_field (a : zS) (x1 : Int32) (k : Nat) (v : Int32) (a' : zS) : Prop :=
  (∃ j : Nat, j ≤ 99 ∧ zNf a < 8 ∧ x1 = nI j ∧ k = 0 ∧ v = nI (zNf a) ∧ a' = zSetNf (zSetRs a (zNf a) j) (zNf a + 1)) ∨
  (zBad x1 100 ∧ k = 1 ∧ a' = a) ∨
  (∃ j : Nat, j ≤ 99 ∧ zNf a = 8 ∧ x1 = nI j ∧ k = 2 ∧ a' = a)
def sp_setReserve (a : zS) (x1 x2 : Int32) (k : Nat) (v : Int32) (a' : zS) : Prop :=
  (∃ f : Nat, ∃ j : Nat, f < zNf a ∧ j ≤ 99 ∧ x1 = nI f ∧ x2 = nI j ∧ k = 0 ∧ v = nI (zRs a f) ∧ a' = zSetRs a f j) ∨
  (zBad x1 (zNf a) ∧ k = 1 ∧ a' = a) ∨
  (∃ f : Nat, f < zNf a ∧ zBad x2 100 ∧ x1 = nI f ∧ k = 2 ∧ a' = a)
def sp_join (a : zS) (k : Nat) (v : Int32) (a' : zS) : Prop :=
  (zNd a < 5 ∧ k = 0 ∧ v = nI (zNd a) ∧ a' = zSetNd a (zNd a + 1)) ∨
  (zNd a = 5 ∧ k = 1 ∧ a' = a)
def sp_setIn (a : zS) (x1 x2 : Int32) (k : Nat) (v : Int32) (a' : zS) : Prop :=
  (∃ d : Nat, ∃ b : Bool, d < zNd a ∧ x1 = nI d ∧ x2 = bI b ∧ k = 0 ∧ v = bI (zIn a d) ∧ a' = zSetOu a (zOuIn (zOu a) d b)) ∨
  (zBad x1 (zNd a) ∧ k = 1 ∧ a' = a)
def sp_bid (a : zS) (x1 x2 x3 : Int32) (k : Nat) (v : Int32) (a' : zS) : Prop :=
  (∃ d : Nat, ∃ m : Nat, ∃ j : Nat, d < zNd a ∧ 0 < m ∧ m < 2 ^ zNf a ∧ j ≤ 999 ∧ zNb a < 12 ∧ x1 = nI d ∧ x2 = nI m ∧ x3 = nI j ∧ k = 0 ∧ v = nI (zNb a) ∧ a' = zBid a d m j) ∨
  (zBad x1 (zNd a) ∧ k = 1 ∧ a' = a) ∨
  (∃ d : Nat, d < zNd a ∧ zBadM x2 (zNf a) ∧ x1 = nI d ∧ k = 2 ∧ a' = a) ∨
  (∃ d : Nat, ∃ m : Nat, d < zNd a ∧ 0 < m ∧ m < 2 ^ zNf a ∧ zBad x3 1000 ∧ x1 = nI d ∧ x2 = nI m ∧ k = 2 ∧ a' = a) ∨
  (∃ d : Nat, ∃ m : Nat, ∃ j : Nat, d < zNd a ∧ 0 < m ∧ m < 2 ^ zNf a ∧ j ≤ 999 ∧ zNb a = 12 ∧ x1 = nI d ∧ x2 = nI m ∧ x3 = nI j ∧ k = 3 ∧ a' = a)
def sp_setPrice (a : zS) (x1 x2 : Int32) (k : Nat) (v : Int32) (a' : zS) : Prop :=
  (∃ b : Nat, ∃ j : Nat, b < zNb a ∧ j ≤ 999 ∧ x1 = nI b ∧ x2 = nI j ∧ k = 0 ∧ v = nI (zPr a b) ∧ a' = zSetPr a b j) ∨
  (zBad x1 (zNb a) ∧ k = 1 ∧ a' = a) ∨
  (∃ b : Nat, b < zNb a ∧ zBad x2 1000 ∧ x1 = nI b ∧ k = 2 ∧ a' = a)
def sp_setWorth (a : zS) (x1 x2 : Int32) (k : Nat) (v : Int32) (a' : zS) : Prop :=
  (∃ b : Nat, ∃ j : Nat, b < zNb a ∧ j ≤ 999 ∧ x1 = nI b ∧ x2 = nI j ∧ k = 0 ∧ v = nI (zWo a b) ∧ a' = zSetWo a b j) ∨
  (zBad x1 (zNb a) ∧ k = 1 ∧ a' = a) ∨
  (∃ b : Nat, b < zNb a ∧ zBad x2 1000 ∧ x1 = nI b ∧ k = 2 ∧ a' = a)
def sp_withdraw (a : zS) (x1 : Int32) (k : Nat) (v : Int32) (a' : zS) : Prop :=
  (∃ b : Nat, b < zNb a ∧ zGo a b = 0 ∧ x1 = nI b ∧ k = 0 ∧ v = nI (zSum (zLof (zSetGo a b 1)) (zNd a)) ∧ a' = zSetGo a b 1) ∨
  (zBad x1 (zNb a) ∧ k = 1 ∧ a' = a) ∨
  (∃ b : Nat, b < zNb a ∧ ¬ zGo a b = 0 ∧ x1 = nI b ∧ k = 2 ∧ a' = a)
def sp_told (a : zS) (x1 x2 : Int32) (k : Nat) (v : Int32) (a' : zS) : Prop :=
  (∃ b : Nat, ∃ w : Nat, b < zNb a ∧ w ≤ 7 ∧ x1 = nI b ∧ x2 = nI w ∧ k = 0 ∧ v = iZ (aTold a b w) ∧ a' = a) ∨
  (zBad x1 (zNb a) ∧ k = 1 ∧ a' = a) ∨
  (∃ b : Nat, b < zNb a ∧ zBad x2 8 ∧ x1 = nI b ∧ k = 1 ∧ a' = a)
def sp_about (a : zS) (x1 x2 : Int32) (k : Nat) (v : Int32) (a' : zS) : Prop :=
  (∃ b : Nat, ∃ w : Nat, b < zNd a ∧ w ≤ 5 ∧ x1 = nI b ∧ x2 = nI w ∧ k = 0 ∧ v = iZ (aAbout a b w) ∧ a' = a) ∨
  (zBad x1 (zNd a) ∧ k = 1 ∧ a' = a) ∨
  (∃ b : Nat, b < zNd a ∧ zBad x2 6 ∧ x1 = nI b ∧ k = 1 ∧ a' = a)
def sp_land (a : zS) (x1 x2 : Int32) (k : Nat) (v : Int32) (a' : zS) : Prop :=
  (∃ b : Nat, ∃ w : Nat, b < zNf a ∧ w ≤ 2 ∧ x1 = nI b ∧ x2 = nI w ∧ k = 0 ∧ v = iZ (aLand a b w) ∧ a' = a) ∨
  (zBad x1 (zNf a) ∧ k = 1 ∧ a' = a) ∨
  (∃ b : Nat, b < zNf a ∧ zBad x2 3 ∧ x1 = nI b ∧ k = 1 ∧ a' = a)
def sp_alone (a : zS) (x1 x2 : Int32) (k : Nat) (v : Int32) (a' : zS) : Prop :=
  (∃ b : Nat, ∃ w : Nat, b < zNf a ∧ w ≤ 2 ∧ x1 = nI b ∧ x2 = nI w ∧ k = 0 ∧ v = iZ (aAlone a b w) ∧ a' = a) ∨
  (zBad x1 (zNf a) ∧ k = 1 ∧ a' = a) ∨
  (∃ b : Nat, b < zNf a ∧ zBad x2 3 ∧ x1 = nI b ∧ k = 1 ∧ a' = a)
def sp_count (a : zS) (x1 : Int32) (k : Nat) (v : Int32) (a' : zS) : Prop :=
  (∃ w : Nat, w ≤ 8 ∧ x1 = nI w ∧ k = 0 ∧ v = iZ (aCount a w) ∧ a' = a) ∨
  (zBad x1 9 ∧ k = 1 ∧ a' = a)
def sp_would (a : zS) (x1 x2 x3 : Int32) (k : Nat) (v : Int32) (a' : zS) : Prop :=
  (∃ b : Nat, ∃ j : Nat, ∃ w : Nat, b < zNb a ∧ j ≤ 999 ∧ w ≤ 3 ∧ x1 = nI b ∧ x2 = nI j ∧ x3 = nI w ∧ k = 0 ∧ v = iZ (aWould a b j w) ∧ a' = a) ∨
  (zBad x1 (zNb a) ∧ k = 1 ∧ a' = a) ∨
  (∃ b : Nat, b < zNb a ∧ zBad x3 4 ∧ x1 = nI b ∧ k = 1 ∧ a' = a) ∨
  (∃ b : Nat, ∃ w : Nat, b < zNb a ∧ w ≤ 3 ∧ zBad x2 1000 ∧ x1 = nI b ∧ x3 = nI w ∧ k = 2 ∧ a' = a)
def sp_least (a : zS) (x1 : Int32) (k : Nat) (v : Int32) (a' : zS) : Prop :=
  (∃ b : Nat, b < zNb a ∧ x1 = nI b ∧ k = 0 ∧ v = iZ (aLeast a b) ∧ a' = a) ∨
  (zBad x1 (zNb a) ∧ k = 1 ∧ a' = a)
theorem sp_field_ex {a : zS} (hi : zInv a) (x1 : Int32) : ∃ (k : Nat) (v : Int32) (a' : zS), sp_field a x1 k v a' ∧ k < 4 ∧ zInv a' := by
  obtain ⟨hnf, hnd, hnb, hou, hrs, hbd⟩ := id hi.1
  rcases zcase x1 (n := 100) (by decide) with h | ⟨j, hj, rfl⟩
  · exact ⟨1, 0, a, (Or.inr (Or.inl ⟨h, rfl, rfl⟩)), by decide, hi⟩
  · by_cases hf : zNf a = 8
    · exact ⟨2, 0, a, (Or.inr (Or.inr ⟨j, by omega, hf, rfl, rfl, rfl⟩)), by decide, hi⟩
    · exact ⟨0, _, _, (Or.inl ⟨j, by omega, by omega, rfl, rfl, rfl, rfl⟩), by decide, zInv_new hi (by omega) (by omega)⟩
theorem sp_setReserve_ex {a : zS} (hi : zInv a) (x1 x2 : Int32) : ∃ (k : Nat) (v : Int32) (a' : zS), sp_setReserve a x1 x2 k v a' ∧ k < 4 ∧ zInv a' := by
  obtain ⟨hnf, hnd, hnb, hou, hrs, hbd⟩ := id hi.1
  rcases zcase x1 (n := zNf a) (by omega) with h | ⟨f, hf, rfl⟩
  · exact ⟨1, 0, a, (Or.inr (Or.inl ⟨h, rfl, rfl⟩)), by decide, hi⟩
  · rcases zcase x2 (n := 100) (by decide) with h | ⟨j, hj, rfl⟩
    · exact ⟨2, 0, a, (Or.inr (Or.inr ⟨f, hf, h, rfl, rfl, rfl⟩)), by decide, hi⟩
    · exact ⟨0, _, _, (Or.inl ⟨f, j, hf, by omega, rfl, rfl, rfl, rfl, rfl⟩), by decide, zInv_setRs hi (by omega)⟩
theorem sp_join_ex {a : zS} (hi : zInv a) : ∃ (k : Nat) (v : Int32) (a' : zS), sp_join a  k v a' ∧ k < 4 ∧ zInv a' := by
  obtain ⟨hnf, hnd, hnb, hou, hrs, hbd⟩ := id hi.1
  by_cases hf : zNd a = 5
  · exact ⟨1, 0, a, (Or.inr ⟨hf, rfl, rfl⟩), by decide, hi⟩
  · exact ⟨0, _, _, (Or.inl ⟨by omega, rfl, rfl, rfl⟩), by decide, zInv_join hi (by omega)⟩
theorem sp_setIn_ex {a : zS} (hi : zInv a) (x1 : Int32) (b : Bool) : ∃ (k : Nat) (v : Int32) (a' : zS), sp_setIn a x1 (bI b) k v a' ∧ k < 4 ∧ zInv a' ∧ (v = bI false ∨ v = bI true) := by
  obtain ⟨hnf, hnd, hnb, hou, hrs, hbd⟩ := id hi.1
  rcases zcase x1 (n := zNd a) (by omega) with h | ⟨d, hd, rfl⟩
  · exact ⟨1, bI false, a, Or.inr ⟨h, rfl, rfl⟩, by decide, hi, Or.inl rfl⟩
  · exact ⟨0, _, _, Or.inl ⟨d, b, hd, rfl, rfl, rfl, rfl, rfl⟩, by decide, zInv_setOu hi hd b, by cases zIn a d <;> simp⟩
theorem sp_bid_ex {a : zS} (hi : zInv a) (x1 x2 x3 : Int32) : ∃ (k : Nat) (v : Int32) (a' : zS), sp_bid a x1 x2 x3 k v a' ∧ k < 4 ∧ zInv a' := by
  obtain ⟨hnf, hnd, hnb, hou, hrs, hbd⟩ := id hi.1
  rcases zcase x1 (n := zNd a) (by omega) with h | ⟨d, hd, rfl⟩
  · exact ⟨1, 0, a, (Or.inr (Or.inl ⟨h, rfl, rfl⟩)), by decide, hi⟩
  · rcases zcaseM x2 hnf with h | ⟨m, hm0, hm, rfl⟩
    · exact ⟨2, 0, a, (Or.inr (Or.inr (Or.inl ⟨d, hd, h, rfl, rfl, rfl⟩))), by decide, hi⟩
    · rcases zcase x3 (n := 1000) (by decide) with h | ⟨j, hj, rfl⟩
      · exact ⟨2, 0, a, (Or.inr (Or.inr (Or.inr (Or.inl ⟨d, m, hd, hm0, hm, h, rfl, rfl, rfl, rfl⟩)))), by decide, hi⟩
      · by_cases hf : zNb a = 12
        · exact ⟨3, 0, a, (Or.inr (Or.inr (Or.inr (Or.inr ⟨d, m, j, hd, hm0, hm, by omega, hf, rfl, rfl, rfl, rfl, rfl⟩)))), by decide, hi⟩
        · exact ⟨0, _, _, (Or.inl ⟨d, m, j, hd, hm0, hm, by omega, by omega, rfl, rfl, rfl, rfl, rfl, rfl⟩), by decide, zInv_bid hi hd hm0 hm (by omega) (by omega)⟩
theorem sp_setPrice_ex {a : zS} (hi : zInv a) (x1 x2 : Int32) : ∃ (k : Nat) (v : Int32) (a' : zS), sp_setPrice a x1 x2 k v a' ∧ k < 4 ∧ zInv a' := by
  obtain ⟨hnf, hnd, hnb, hou, hrs, hbd⟩ := id hi.1
  rcases zcase x1 (n := zNb a) (by omega) with h | ⟨b, hb, rfl⟩
  · exact ⟨1, 0, a, (Or.inr (Or.inl ⟨h, rfl, rfl⟩)), by decide, hi⟩
  · rcases zcase x2 (n := 1000) (by decide) with h | ⟨j, hj, rfl⟩
    · exact ⟨2, 0, a, (Or.inr (Or.inr ⟨b, hb, h, rfl, rfl, rfl⟩)), by decide, hi⟩
    · exact ⟨0, _, _, (Or.inl ⟨b, j, hb, by omega, rfl, rfl, rfl, rfl, rfl⟩), by decide, zInv_setPr hi (by omega)⟩
theorem sp_setWorth_ex {a : zS} (hi : zInv a) (x1 x2 : Int32) : ∃ (k : Nat) (v : Int32) (a' : zS), sp_setWorth a x1 x2 k v a' ∧ k < 4 ∧ zInv a' := by
  obtain ⟨hnf, hnd, hnb, hou, hrs, hbd⟩ := id hi.1
  rcases zcase x1 (n := zNb a) (by omega) with h | ⟨b, hb, rfl⟩
  · exact ⟨1, 0, a, (Or.inr (Or.inl ⟨h, rfl, rfl⟩)), by decide, hi⟩
  · rcases zcase x2 (n := 1000) (by decide) with h | ⟨j, hj, rfl⟩
    · exact ⟨2, 0, a, (Or.inr (Or.inr ⟨b, hb, h, rfl, rfl, rfl⟩)), by decide, hi⟩
    · exact ⟨0, _, _, (Or.inl ⟨b, j, hb, by omega, rfl, rfl, rfl, rfl, rfl⟩), by decide, zInv_setWo hi (by omega)⟩
theorem sp_withdraw_ex {a : zS} (hi : zInv a) (x1 : Int32) : ∃ (k : Nat) (v : Int32) (a' : zS), sp_withdraw a x1 k v a' ∧ k < 4 ∧ zInv a' := by
  obtain ⟨hnf, hnd, hnb, hou, hrs, hbd⟩ := id hi.1
  rcases zcase x1 (n := zNb a) (by omega) with h | ⟨b, hb, rfl⟩
  · exact ⟨1, 0, a, (Or.inr (Or.inl ⟨h, rfl, rfl⟩)), by decide, hi⟩
  · by_cases hg : zGo a b = 0
    · exact ⟨0, _, _, (Or.inl ⟨b, hb, hg, rfl, rfl, rfl, rfl⟩), by decide, zInv_setGo hi hb⟩
    · exact ⟨2, 0, a, (Or.inr (Or.inr ⟨b, hb, hg, rfl, rfl, rfl⟩)), by decide, hi⟩
theorem sp_told_ex {a : zS} (hi : zInv a) (x1 x2 : Int32) : ∃ (k : Nat) (v : Int32) (a' : zS), sp_told a x1 x2 k v a' ∧ k < 4 ∧ zInv a' := by
  obtain ⟨hnf, hnd, hnb, hou, hrs, hbd⟩ := id hi.1
  rcases zcase x1 (n := zNb a) (by omega) with h | ⟨b, hb, rfl⟩
  · exact ⟨1, 0, a, (Or.inr (Or.inl ⟨h, rfl, rfl⟩)), by decide, hi⟩
  · rcases zcase x2 (n := 8) (by decide) with h | ⟨w, hw, rfl⟩
    · exact ⟨1, 0, a, (Or.inr (Or.inr ⟨b, hb, h, rfl, rfl, rfl⟩)), by decide, hi⟩
    · exact ⟨0, _, a, (Or.inl ⟨b, w, hb, by omega, rfl, rfl, rfl, rfl, rfl⟩), by decide, hi⟩
theorem sp_about_ex {a : zS} (hi : zInv a) (x1 x2 : Int32) : ∃ (k : Nat) (v : Int32) (a' : zS), sp_about a x1 x2 k v a' ∧ k < 4 ∧ zInv a' := by
  obtain ⟨hnf, hnd, hnb, hou, hrs, hbd⟩ := id hi.1
  rcases zcase x1 (n := zNd a) (by omega) with h | ⟨b, hb, rfl⟩
  · exact ⟨1, 0, a, (Or.inr (Or.inl ⟨h, rfl, rfl⟩)), by decide, hi⟩
  · rcases zcase x2 (n := 6) (by decide) with h | ⟨w, hw, rfl⟩
    · exact ⟨1, 0, a, (Or.inr (Or.inr ⟨b, hb, h, rfl, rfl, rfl⟩)), by decide, hi⟩
    · exact ⟨0, _, a, (Or.inl ⟨b, w, hb, by omega, rfl, rfl, rfl, rfl, rfl⟩), by decide, hi⟩
theorem sp_land_ex {a : zS} (hi : zInv a) (x1 x2 : Int32) : ∃ (k : Nat) (v : Int32) (a' : zS), sp_land a x1 x2 k v a' ∧ k < 4 ∧ zInv a' := by
  obtain ⟨hnf, hnd, hnb, hou, hrs, hbd⟩ := id hi.1
  rcases zcase x1 (n := zNf a) (by omega) with h | ⟨b, hb, rfl⟩
  · exact ⟨1, 0, a, (Or.inr (Or.inl ⟨h, rfl, rfl⟩)), by decide, hi⟩
  · rcases zcase x2 (n := 3) (by decide) with h | ⟨w, hw, rfl⟩
    · exact ⟨1, 0, a, (Or.inr (Or.inr ⟨b, hb, h, rfl, rfl, rfl⟩)), by decide, hi⟩
    · exact ⟨0, _, a, (Or.inl ⟨b, w, hb, by omega, rfl, rfl, rfl, rfl, rfl⟩), by decide, hi⟩
theorem sp_alone_ex {a : zS} (hi : zInv a) (x1 x2 : Int32) : ∃ (k : Nat) (v : Int32) (a' : zS), sp_alone a x1 x2 k v a' ∧ k < 4 ∧ zInv a' := by
  obtain ⟨hnf, hnd, hnb, hou, hrs, hbd⟩ := id hi.1
  rcases zcase x1 (n := zNf a) (by omega) with h | ⟨b, hb, rfl⟩
  · exact ⟨1, 0, a, (Or.inr (Or.inl ⟨h, rfl, rfl⟩)), by decide, hi⟩
  · rcases zcase x2 (n := 3) (by decide) with h | ⟨w, hw, rfl⟩
    · exact ⟨1, 0, a, (Or.inr (Or.inr ⟨b, hb, h, rfl, rfl, rfl⟩)), by decide, hi⟩
    · exact ⟨0, _, a, (Or.inl ⟨b, w, hb, by omega, rfl, rfl, rfl, rfl, rfl⟩), by decide, hi⟩
theorem sp_count_ex {a : zS} (hi : zInv a) (x1 : Int32) : ∃ (k : Nat) (v : Int32) (a' : zS), sp_count a x1 k v a' ∧ k < 4 ∧ zInv a' := by
  obtain ⟨hnf, hnd, hnb, hou, hrs, hbd⟩ := id hi.1
  rcases zcase x1 (n := 9) (by decide) with h | ⟨w, hw, rfl⟩
  · exact ⟨1, 0, a, (Or.inr ⟨h, rfl, rfl⟩), by decide, hi⟩
  · exact ⟨0, _, a, (Or.inl ⟨w, by omega, rfl, rfl, rfl, rfl⟩), by decide, hi⟩
theorem sp_would_ex {a : zS} (hi : zInv a) (x1 x2 x3 : Int32) : ∃ (k : Nat) (v : Int32) (a' : zS), sp_would a x1 x2 x3 k v a' ∧ k < 4 ∧ zInv a' := by
  obtain ⟨hnf, hnd, hnb, hou, hrs, hbd⟩ := id hi.1
  rcases zcase x1 (n := zNb a) (by omega) with h | ⟨b, hb, rfl⟩
  · exact ⟨1, 0, a, (Or.inr (Or.inl ⟨h, rfl, rfl⟩)), by decide, hi⟩
  · rcases zcase x3 (n := 4) (by decide) with h | ⟨w, hw, rfl⟩
    · exact ⟨1, 0, a, (Or.inr (Or.inr (Or.inl ⟨b, hb, h, rfl, rfl, rfl⟩))), by decide, hi⟩
    · rcases zcase x2 (n := 1000) (by decide) with h | ⟨j, hj, rfl⟩
      · exact ⟨2, 0, a, (Or.inr (Or.inr (Or.inr ⟨b, w, hb, by omega, h, rfl, rfl, rfl, rfl⟩))), by decide, hi⟩
      · exact ⟨0, _, a, (Or.inl ⟨b, j, w, hb, by omega, by omega, rfl, rfl, rfl, rfl, rfl, rfl⟩), by decide, hi⟩
theorem sp_least_ex {a : zS} (hi : zInv a) (x1 : Int32) : ∃ (k : Nat) (v : Int32) (a' : zS), sp_least a x1 k v a' ∧ k < 4 ∧ zInv a' := by
  obtain ⟨hnf, hnd, hnb, hou, hrs, hbd⟩ := id hi.1
  rcases zcase x1 (n := zNb a) (by omega) with h | ⟨b, hb, rfl⟩
  · exact ⟨1, 0, a, (Or.inr ⟨h, rfl, rfl⟩), by decide, hi⟩
  · exact ⟨0, _, a, (Or.inl ⟨b, hb, rfl, rfl, rfl, rfl⟩), by decide, hi⟩
theorem zM.wide {g : zG} {l : Launch} {y : MethodName} {ws : List Cond} {rm rm' : Room} {As : List Value} {w : va_W} {post : Option Value → va_W → Prop} {mc ms mc' ms' : Nat} (h : zM g l y ws rm As w post mc ms) (hr : rm.frames ≤ rm'.frames ∧ rm.locals ≤ rm'.locals ∧ rm.cells ≤ rm'.cells ∧ rm.slots ≤ rm'.slots) (hc : mc ≤ mc' ∧ ms ≤ ms') : zM g l y ws rm' As w post mc' ms' := by
  intro sz p e ha hcs hk s m args below hf happ hP hT
  obtain ⟨t, o, h1, h2, h3, hQ, L, ⟨f1, f2, f3⟩, hL⟩ := MetFree.respec (S' := headSpec ws rm') (h sz) (fun _ _ h => h) hr.1 hr.2.1 hr.2.2.1 hr.2.2.2 p e ha hcs hk s m args below hf happ hP hT
  exact ⟨t, o, h1, h2, h3, hQ, L, ⟨f1, f2, f3.mono hc.1 hc.2⟩, hL⟩
theorem zMH.wide {g : zG} {l : Launch} {y : MethodName} {ws : List Cond} {rm rm' : Room} {As : List Value} {w : va_W} {post : Option Value → va_W → Prop} {mc ms mc' ms' : Nat} (h : zMH g l y ws rm As w post mc ms) (hr : rm.frames ≤ rm'.frames ∧ rm.locals ≤ rm'.locals ∧ rm.cells ≤ rm'.cells ∧ rm.slots ≤ rm'.slots) (hc : mc ≤ mc' ∧ ms ≤ ms') : zMH g l y ws rm' As w post mc' ms' := by
  intro sz p e ha hcs hk s m args below hf happ hP hT
  obtain ⟨t, o, h1, h2, h3, hQ, L, ⟨f1, f2, f3⟩, hL⟩ := MetFree.respec (S' := headSpec ws rm') (h sz) (fun _ _ h => h) hr.1 hr.2.1 hr.2.2.1 hr.2.2.2 p e ha hcs hk s m args below hf happ hP hT
  exact ⟨t, o, h1, h2, h3, hQ, L, ⟨f1, f2, f3.mono hc.1 hc.2⟩, hL⟩
/-- an answer that counts where nothing was refused, and of the world a proposition -/
def zRk (k : Nat) (v : Int32) (P : va_W → Prop) : Option Value → va_W → Prop := fun o w' => ∃ v' : Int32, o = some (.int v') ∧ (k = 0 → v' = v) ∧ P w'
theorem zRk.of {k : Nat} {v v' : Int32} {P : va_W → Prop} (h : k = 0 → v' = v) : ∀ o w', zPie v' P o w' → zRk k v P o w' := fun _ _ ⟨h1, h2⟩ => ⟨v', h1, h, h2⟩
theorem m_field (l : Launch) (g : zG) (q : Nat → Nat) (th : Int) (a : zS) (la : Nat → Int) (pe : Nat → Nat) (ga : Nat → Int) (sz : Nat → Nat) {v : Int32} {k : Nat} {a' : zS} (hi : zInv a) (h0 : zM0 la pe) (x1 : Int32) (h : sp_field a x1 k v a') : zM g l yX3_field wsX3_field { frames := 1, cells := 0, slots := 0, locals := 22 } [.ref (q 0), .int x1] (wM g q th a la pe ga sz) (zRk k v (zMw g q (k : Int) a')) 0 0 := by
  have hz9 := h0
  clear h0
  rcases h with ⟨j, h0, h1, rfl, rfl, rfl, rfl⟩ | ⟨h0, rfl, rfl⟩ | ⟨j, h0, h1, rfl, rfl, rfl⟩
  · exact ((c_X3_field l g q th a la pe ga sz hi.1 hz9 hi j h0 h1).mono (zRk.of (fun h => rfl))).wide ⟨Nat.le_of_ble_eq_true rfl, Nat.le_of_ble_eq_true rfl, Nat.le_of_ble_eq_true rfl, Nat.le_of_ble_eq_true rfl⟩ ⟨Nat.le_of_ble_eq_true rfl, Nat.le_of_ble_eq_true rfl⟩
  · exact ((c_X3_field_e1 l g q th a' la pe ga sz hi.1 hz9 x1 h0).mono (zRk.of (fun h => absurd h (by decide)))).wide ⟨Nat.le_of_ble_eq_true rfl, Nat.le_of_ble_eq_true rfl, Nat.le_of_ble_eq_true rfl, Nat.le_of_ble_eq_true rfl⟩ ⟨Nat.le_of_ble_eq_true rfl, Nat.le_of_ble_eq_true rfl⟩
  · exact ((c_X3_field_e2 l g q th a' la pe ga sz hi.1 hz9 j h0 h1).mono (zRk.of (fun h => absurd h (by decide)))).wide ⟨Nat.le_of_ble_eq_true rfl, Nat.le_of_ble_eq_true rfl, Nat.le_of_ble_eq_true rfl, Nat.le_of_ble_eq_true rfl⟩ ⟨Nat.le_of_ble_eq_true rfl, Nat.le_of_ble_eq_true rfl⟩
theorem m_setReserve (l : Launch) (g : zG) (q : Nat → Nat) (th : Int) (a : zS) (la : Nat → Int) (pe : Nat → Nat) (ga : Nat → Int) (sz : Nat → Nat) {v : Int32} {k : Nat} {a' : zS} (hi : zInv a) (h0 : zM0 la pe) (x1 x2 : Int32) (h : sp_setReserve a x1 x2 k v a') : zM g l yX3_setReserve wsX3_setReserve { frames := 2, cells := 0, slots := 0, locals := 43 } [.ref (q 0), .int x1, .int x2] (wM g q th a la pe ga sz) (zRk k v (zMw g q (k : Int) a')) 0 0 := by
  have hz9 := h0
  clear h0
  rcases h with ⟨f, j, h0, h1, rfl, rfl, rfl, rfl, rfl⟩ | ⟨h0, rfl, rfl⟩ | ⟨f, h0, h1, rfl, rfl, rfl⟩
  · exact ((c_X3_setReserve l g q th a la pe ga sz hi.1 hz9 hi f j h0 h1).mono (zRk.of (fun h => rfl))).wide ⟨Nat.le_of_ble_eq_true rfl, Nat.le_of_ble_eq_true rfl, Nat.le_of_ble_eq_true rfl, Nat.le_of_ble_eq_true rfl⟩ ⟨Nat.le_of_ble_eq_true rfl, Nat.le_of_ble_eq_true rfl⟩
  · exact ((c_X3_setReserve_e1 l g q th a' la pe ga sz hi.1 hz9 x1 x2 h0).mono (zRk.of (fun h => absurd h (by decide)))).wide ⟨Nat.le_of_ble_eq_true rfl, Nat.le_of_ble_eq_true rfl, Nat.le_of_ble_eq_true rfl, Nat.le_of_ble_eq_true rfl⟩ ⟨Nat.le_of_ble_eq_true rfl, Nat.le_of_ble_eq_true rfl⟩
  · exact ((c_X3_setReserve_e2 l g q th a' la pe ga sz hi.1 hz9 f x2 h0 h1).mono (zRk.of (fun h => absurd h (by decide)))).wide ⟨Nat.le_of_ble_eq_true rfl, Nat.le_of_ble_eq_true rfl, Nat.le_of_ble_eq_true rfl, Nat.le_of_ble_eq_true rfl⟩ ⟨Nat.le_of_ble_eq_true rfl, Nat.le_of_ble_eq_true rfl⟩
theorem m_join (l : Launch) (g : zG) (q : Nat → Nat) (th : Int) (a : zS) (la : Nat → Int) (pe : Nat → Nat) (ga : Nat → Int) (sz : Nat → Nat) {v : Int32} {k : Nat} {a' : zS} (hi : zInv a) (h0 : zM0 la pe) (h : sp_join a  k v a') : zM g l yX3_join wsX3_join { frames := 1, cells := 0, slots := 0, locals := 21 } [.ref (q 0)] (wM g q th a la pe ga sz) (zRk k v (zMw g q (k : Int) a')) 0 0 := by
  have hz9 := h0
  clear h0
  rcases h with ⟨h0, rfl, rfl, rfl⟩ | ⟨h0, rfl, rfl⟩
  · exact ((c_X3_join l g q th a la pe ga sz hi.1 hz9 hi h0).mono (zRk.of (fun h => rfl))).wide ⟨Nat.le_of_ble_eq_true rfl, Nat.le_of_ble_eq_true rfl, Nat.le_of_ble_eq_true rfl, Nat.le_of_ble_eq_true rfl⟩ ⟨Nat.le_of_ble_eq_true rfl, Nat.le_of_ble_eq_true rfl⟩
  · exact ((c_X3_join_e1 l g q th a' la pe ga sz hi.1 hz9 h0).mono (zRk.of (fun h => absurd h (by decide)))).wide ⟨Nat.le_of_ble_eq_true rfl, Nat.le_of_ble_eq_true rfl, Nat.le_of_ble_eq_true rfl, Nat.le_of_ble_eq_true rfl⟩ ⟨Nat.le_of_ble_eq_true rfl, Nat.le_of_ble_eq_true rfl⟩
theorem m_setIn (l : Launch) (g : zG) (q : Nat → Nat) (th : Int) (a : zS) (la : Nat → Int) (pe : Nat → Nat) (ga : Nat → Int) (sz : Nat → Nat) {v : Int32} {k : Nat} {a' : zS} (hi : zInv a) (h0 : zM0 la pe) (x1 x2 : Int32) (h : sp_setIn a x1 x2 k v a') : zM g l yX3_setIn wsX3_setIn { frames := 2, cells := 0, slots := 0, locals := 43 } [.ref (q 0), .int x1, .int x2] (wM g q th a la pe ga sz) (zRk k v (zMw g q (k : Int) a')) 0 0 := by
  have hz9 := h0
  clear h0
  rcases h with ⟨d, b, h0, rfl, rfl, rfl, rfl, rfl⟩ | ⟨h0, rfl, rfl⟩
  · exact ((c_X3_setIn l g q th a la pe ga sz hi.1 hz9 d h0 b).mono (zRk.of (fun h => rfl))).wide ⟨Nat.le_of_ble_eq_true rfl, Nat.le_of_ble_eq_true rfl, Nat.le_of_ble_eq_true rfl, Nat.le_of_ble_eq_true rfl⟩ ⟨Nat.le_of_ble_eq_true rfl, Nat.le_of_ble_eq_true rfl⟩
  · exact ((c_X3_setIn_e1 l g q th a' la pe ga sz hi.1 hz9 x1 x2 h0).mono (zRk.of (fun h => absurd h (by decide)))).wide ⟨Nat.le_of_ble_eq_true rfl, Nat.le_of_ble_eq_true rfl, Nat.le_of_ble_eq_true rfl, Nat.le_of_ble_eq_true rfl⟩ ⟨Nat.le_of_ble_eq_true rfl, Nat.le_of_ble_eq_true rfl⟩
theorem m_bid (l : Launch) (g : zG) (q : Nat → Nat) (th : Int) (a : zS) (la : Nat → Int) (pe : Nat → Nat) (ga : Nat → Int) (sz : Nat → Nat) {v : Int32} {k : Nat} {a' : zS} (hi : zInv a) (h0 : zM0 la pe) (x1 x2 x3 : Int32) (h : sp_bid a x1 x2 x3 k v a') : zM g l yX3_bid wsX3_bid { frames := 2, cells := 1, slots := 5, locals := 60 } [.ref (q 0), .int x1, .int x2, .int x3] (wM g q th a la pe ga sz) (zRk k v (zMw g q (k : Int) a')) 1 5 := by
  have hz9 := h0
  clear h0
  rcases h with ⟨d, m, j, h0, h1, h2, h3, h4, rfl, rfl, rfl, rfl, rfl, rfl⟩ | ⟨h0, rfl, rfl⟩ | ⟨d, h0, h1, rfl, rfl, rfl⟩ | ⟨d, m, h0, h1, h2, h3, rfl, rfl, rfl, rfl⟩ | ⟨d, m, j, h0, h1, h2, h3, h4, rfl, rfl, rfl, rfl, rfl⟩
  · exact ((c_X3_bid l g q th a la pe ga sz hi hi.1 hz9 d m j h0 h1 h2 h3 h4).mono (zRk.of (fun h => rfl))).wide ⟨Nat.le_of_ble_eq_true rfl, Nat.le_of_ble_eq_true rfl, Nat.le_of_ble_eq_true rfl, Nat.le_of_ble_eq_true rfl⟩ ⟨Nat.le_of_ble_eq_true rfl, Nat.le_of_ble_eq_true rfl⟩
  · exact ((c_X3_bid_e1 l g q th a' la pe ga sz hi.1 hz9 x1 x2 x3 h0).mono (zRk.of (fun h => absurd h (by decide)))).wide ⟨Nat.le_of_ble_eq_true rfl, Nat.le_of_ble_eq_true rfl, Nat.le_of_ble_eq_true rfl, Nat.le_of_ble_eq_true rfl⟩ ⟨Nat.le_of_ble_eq_true rfl, Nat.le_of_ble_eq_true rfl⟩
  · exact ((c_X3_bid_e2 l g q th a' la pe ga sz hi.1 hz9 d x2 x3 h0 h1).mono (zRk.of (fun h => absurd h (by decide)))).wide ⟨Nat.le_of_ble_eq_true rfl, Nat.le_of_ble_eq_true rfl, Nat.le_of_ble_eq_true rfl, Nat.le_of_ble_eq_true rfl⟩ ⟨Nat.le_of_ble_eq_true rfl, Nat.le_of_ble_eq_true rfl⟩
  · exact ((c_X3_bid_e3 l g q th a' la pe ga sz hi.1 hz9 d m x3 h0 h1 h2 h3).mono (zRk.of (fun h => absurd h (by decide)))).wide ⟨Nat.le_of_ble_eq_true rfl, Nat.le_of_ble_eq_true rfl, Nat.le_of_ble_eq_true rfl, Nat.le_of_ble_eq_true rfl⟩ ⟨Nat.le_of_ble_eq_true rfl, Nat.le_of_ble_eq_true rfl⟩
  · exact ((c_X3_bid_e4 l g q th a' la pe ga sz hi.1 hz9 d m j h0 h1 h2 h3 h4).mono (zRk.of (fun h => absurd h (by decide)))).wide ⟨Nat.le_of_ble_eq_true rfl, Nat.le_of_ble_eq_true rfl, Nat.le_of_ble_eq_true rfl, Nat.le_of_ble_eq_true rfl⟩ ⟨Nat.le_of_ble_eq_true rfl, Nat.le_of_ble_eq_true rfl⟩
theorem m_setPrice (l : Launch) (g : zG) (q : Nat → Nat) (th : Int) (a : zS) (la : Nat → Int) (pe : Nat → Nat) (ga : Nat → Int) (sz : Nat → Nat) {v : Int32} {k : Nat} {a' : zS} (hi : zInv a) (h0 : zM0 la pe) (x1 x2 : Int32) (h : sp_setPrice a x1 x2 k v a') : zM g l yX3_setPrice wsX3_setPrice { frames := 3, cells := 0, slots := 0, locals := 67 } [.ref (q 0), .int x1, .int x2] (wM g q th a la pe ga sz) (zRk k v (zMw g q (k : Int) a')) 0 0 := by
  have hz9 := h0
  clear h0
  rcases h with ⟨b, j, h0, h1, rfl, rfl, rfl, rfl, rfl⟩ | ⟨h0, rfl, rfl⟩ | ⟨b, h0, h1, rfl, rfl, rfl⟩
  · exact ((c_X3_setPrice l g q th a la pe ga sz hi.1 hz9 b j h0 h1).mono (zRk.of (fun h => rfl))).wide ⟨Nat.le_of_ble_eq_true rfl, Nat.le_of_ble_eq_true rfl, Nat.le_of_ble_eq_true rfl, Nat.le_of_ble_eq_true rfl⟩ ⟨Nat.le_of_ble_eq_true rfl, Nat.le_of_ble_eq_true rfl⟩
  · exact ((c_X3_setPrice_e1 l g q th a' la pe ga sz hi.1 hz9 x1 x2 h0).mono (zRk.of (fun h => absurd h (by decide)))).wide ⟨Nat.le_of_ble_eq_true rfl, Nat.le_of_ble_eq_true rfl, Nat.le_of_ble_eq_true rfl, Nat.le_of_ble_eq_true rfl⟩ ⟨Nat.le_of_ble_eq_true rfl, Nat.le_of_ble_eq_true rfl⟩
  · exact ((c_X3_setPrice_e2 l g q th a' la pe ga sz hi.1 hz9 b x2 h0 h1).mono (zRk.of (fun h => absurd h (by decide)))).wide ⟨Nat.le_of_ble_eq_true rfl, Nat.le_of_ble_eq_true rfl, Nat.le_of_ble_eq_true rfl, Nat.le_of_ble_eq_true rfl⟩ ⟨Nat.le_of_ble_eq_true rfl, Nat.le_of_ble_eq_true rfl⟩
theorem m_setWorth (l : Launch) (g : zG) (q : Nat → Nat) (th : Int) (a : zS) (la : Nat → Int) (pe : Nat → Nat) (ga : Nat → Int) (sz : Nat → Nat) {v : Int32} {k : Nat} {a' : zS} (hi : zInv a) (h0 : zM0 la pe) (x1 x2 : Int32) (h : sp_setWorth a x1 x2 k v a') : zM g l yX3_setWorth wsX3_setWorth { frames := 3, cells := 0, slots := 0, locals := 67 } [.ref (q 0), .int x1, .int x2] (wM g q th a la pe ga sz) (zRk k v (zMw g q (k : Int) a')) 0 0 := by
  have hz9 := h0
  clear h0
  rcases h with ⟨b, j, h0, h1, rfl, rfl, rfl, rfl, rfl⟩ | ⟨h0, rfl, rfl⟩ | ⟨b, h0, h1, rfl, rfl, rfl⟩
  · exact ((c_X3_setWorth l g q th a la pe ga sz hi.1 hz9 b j h0 h1).mono (zRk.of (fun h => rfl))).wide ⟨Nat.le_of_ble_eq_true rfl, Nat.le_of_ble_eq_true rfl, Nat.le_of_ble_eq_true rfl, Nat.le_of_ble_eq_true rfl⟩ ⟨Nat.le_of_ble_eq_true rfl, Nat.le_of_ble_eq_true rfl⟩
  · exact ((c_X3_setWorth_e1 l g q th a' la pe ga sz hi.1 hz9 x1 x2 h0).mono (zRk.of (fun h => absurd h (by decide)))).wide ⟨Nat.le_of_ble_eq_true rfl, Nat.le_of_ble_eq_true rfl, Nat.le_of_ble_eq_true rfl, Nat.le_of_ble_eq_true rfl⟩ ⟨Nat.le_of_ble_eq_true rfl, Nat.le_of_ble_eq_true rfl⟩
  · exact ((c_X3_setWorth_e2 l g q th a' la pe ga sz hi.1 hz9 b x2 h0 h1).mono (zRk.of (fun h => absurd h (by decide)))).wide ⟨Nat.le_of_ble_eq_true rfl, Nat.le_of_ble_eq_true rfl, Nat.le_of_ble_eq_true rfl, Nat.le_of_ble_eq_true rfl⟩ ⟨Nat.le_of_ble_eq_true rfl, Nat.le_of_ble_eq_true rfl⟩
theorem m_withdraw (l : Launch) (g : zG) (q : Nat → Nat) (th : Int) (a : zS) (la : Nat → Int) (pe : Nat → Nat) (ga : Nat → Int) (sz : Nat → Nat) {v : Int32} {k : Nat} {a' : zS} (hi : zInv a) (h0 : zM0 la pe) (x1 : Int32) (h : sp_withdraw a x1 k v a') : zM g l yX3_withdraw wsX3_withdraw { frames := 2, cells := 0, slots := 0, locals := 43 } [.ref (q 0), .int x1] (wM g q th a la pe ga sz) (zRk k v (zMw g q (k : Int) a')) 0 0 := by
  have hz9 := h0
  clear h0
  rcases h with ⟨b, h0, h1, rfl, rfl, rfl, rfl⟩ | ⟨h0, rfl, rfl⟩ | ⟨b, h0, h1, rfl, rfl, rfl⟩
  · exact ((c_X3_withdraw l g q th a la pe ga sz hi.1 hz9 hi b h0 h1).mono (zRk.of (fun h => rfl))).wide ⟨Nat.le_of_ble_eq_true rfl, Nat.le_of_ble_eq_true rfl, Nat.le_of_ble_eq_true rfl, Nat.le_of_ble_eq_true rfl⟩ ⟨Nat.le_of_ble_eq_true rfl, Nat.le_of_ble_eq_true rfl⟩
  · exact ((c_X3_withdraw_e1 l g q th a' la pe ga sz hi.1 hz9 x1 h0).mono (zRk.of (fun h => absurd h (by decide)))).wide ⟨Nat.le_of_ble_eq_true rfl, Nat.le_of_ble_eq_true rfl, Nat.le_of_ble_eq_true rfl, Nat.le_of_ble_eq_true rfl⟩ ⟨Nat.le_of_ble_eq_true rfl, Nat.le_of_ble_eq_true rfl⟩
  · exact ((c_X3_withdraw_e2 l g q th a' la pe ga sz hi.1 hz9 b h0 h1).mono (zRk.of (fun h => absurd h (by decide)))).wide ⟨Nat.le_of_ble_eq_true rfl, Nat.le_of_ble_eq_true rfl, Nat.le_of_ble_eq_true rfl, Nat.le_of_ble_eq_true rfl⟩ ⟨Nat.le_of_ble_eq_true rfl, Nat.le_of_ble_eq_true rfl⟩
theorem m_told (l : Launch) (g : zG) (q : Nat → Nat) (th : Int) (a : zS) (la : Nat → Int) (pe : Nat → Nat) (ga : Nat → Int) (sz : Nat → Nat) {v : Int32} {k : Nat} {a' : zS} (hi : zInv a) (h0 : zM0 la pe) (x1 x2 : Int32) (h : sp_told a x1 x2 k v a') : zM g l yX3_told wsX3_told { frames := 6, cells := 0, slots := 0, locals := 135 } [.ref (q 0), .int x1, .int x2] (wM g q th a la pe ga sz) (zRk k v (zMw g q (k : Int) a')) 0 0 := by
  have hz9 := h0
  clear h0
  rcases h with ⟨b, w, h0, h1, rfl, rfl, rfl, rfl, rfl⟩ | ⟨h0, rfl, rfl⟩ | ⟨b, h0, h1, rfl, rfl, rfl⟩
  · exact ((c_X3_told l g q th a' la pe ga sz hi.1 hz9 b w h0 h1).mono (zRk.of (fun h => rfl))).wide ⟨Nat.le_of_ble_eq_true rfl, Nat.le_of_ble_eq_true rfl, Nat.le_of_ble_eq_true rfl, Nat.le_of_ble_eq_true rfl⟩ ⟨Nat.le_of_ble_eq_true rfl, Nat.le_of_ble_eq_true rfl⟩
  · exact ((c_X3_told_e1 l g q th a' la pe ga sz hi.1 hz9 x1 x2 h0).mono (zRk.of (fun h => absurd h (by decide)))).wide ⟨Nat.le_of_ble_eq_true rfl, Nat.le_of_ble_eq_true rfl, Nat.le_of_ble_eq_true rfl, Nat.le_of_ble_eq_true rfl⟩ ⟨Nat.le_of_ble_eq_true rfl, Nat.le_of_ble_eq_true rfl⟩
  · exact ((c_X3_told_e2 l g q th a' la pe ga sz hi.1 hz9 b x2 h0 h1).mono (zRk.of (fun h => absurd h (by decide)))).wide ⟨Nat.le_of_ble_eq_true rfl, Nat.le_of_ble_eq_true rfl, Nat.le_of_ble_eq_true rfl, Nat.le_of_ble_eq_true rfl⟩ ⟨Nat.le_of_ble_eq_true rfl, Nat.le_of_ble_eq_true rfl⟩
theorem m_about (l : Launch) (g : zG) (q : Nat → Nat) (th : Int) (a : zS) (la : Nat → Int) (pe : Nat → Nat) (ga : Nat → Int) (sz : Nat → Nat) {v : Int32} {k : Nat} {a' : zS} (hi : zInv a) (h0 : zM0 la pe) (x1 x2 : Int32) (h : sp_about a x1 x2 k v a') : zM g l yX3_about wsX3_about { frames := 9, cells := 0, slots := 0, locals := 206 } [.ref (q 0), .int x1, .int x2] (wM g q th a la pe ga sz) (zRk k v (zMw g q (k : Int) a')) 0 0 := by
  have hz9 := h0
  clear h0
  rcases h with ⟨b, w, h0, h1, rfl, rfl, rfl, rfl, rfl⟩ | ⟨h0, rfl, rfl⟩ | ⟨b, h0, h1, rfl, rfl, rfl⟩
  · exact ((c_X3_about l g q th a' la pe ga sz hi.1 hz9 b w h0 h1).mono (zRk.of (fun h => rfl))).wide ⟨Nat.le_of_ble_eq_true rfl, Nat.le_of_ble_eq_true rfl, Nat.le_of_ble_eq_true rfl, Nat.le_of_ble_eq_true rfl⟩ ⟨Nat.le_of_ble_eq_true rfl, Nat.le_of_ble_eq_true rfl⟩
  · exact ((c_X3_about_e1 l g q th a' la pe ga sz hi.1 hz9 x1 x2 h0).mono (zRk.of (fun h => absurd h (by decide)))).wide ⟨Nat.le_of_ble_eq_true rfl, Nat.le_of_ble_eq_true rfl, Nat.le_of_ble_eq_true rfl, Nat.le_of_ble_eq_true rfl⟩ ⟨Nat.le_of_ble_eq_true rfl, Nat.le_of_ble_eq_true rfl⟩
  · exact ((c_X3_about_e2 l g q th a' la pe ga sz hi.1 hz9 b x2 h0 h1).mono (zRk.of (fun h => absurd h (by decide)))).wide ⟨Nat.le_of_ble_eq_true rfl, Nat.le_of_ble_eq_true rfl, Nat.le_of_ble_eq_true rfl, Nat.le_of_ble_eq_true rfl⟩ ⟨Nat.le_of_ble_eq_true rfl, Nat.le_of_ble_eq_true rfl⟩
theorem m_land (l : Launch) (g : zG) (q : Nat → Nat) (th : Int) (a : zS) (la : Nat → Int) (pe : Nat → Nat) (ga : Nat → Int) (sz : Nat → Nat) {v : Int32} {k : Nat} {a' : zS} (hi : zInv a) (h0 : zM0 la pe) (x1 x2 : Int32) (h : sp_land a x1 x2 k v a') : zM g l yX3_land wsX3_land { frames := 6, cells := 0, slots := 0, locals := 138 } [.ref (q 0), .int x1, .int x2] (wM g q th a la pe ga sz) (zRk k v (zMw g q (k : Int) a')) 0 0 := by
  have hz9 := h0
  clear h0
  rcases h with ⟨b, w, h0, h1, rfl, rfl, rfl, rfl, rfl⟩ | ⟨h0, rfl, rfl⟩ | ⟨b, h0, h1, rfl, rfl, rfl⟩
  · exact ((c_X3_land l g q th a' la pe ga sz hi.1 hz9 b w h0 h1).mono (zRk.of (fun h => rfl))).wide ⟨Nat.le_of_ble_eq_true rfl, Nat.le_of_ble_eq_true rfl, Nat.le_of_ble_eq_true rfl, Nat.le_of_ble_eq_true rfl⟩ ⟨Nat.le_of_ble_eq_true rfl, Nat.le_of_ble_eq_true rfl⟩
  · exact ((c_X3_land_e1 l g q th a' la pe ga sz hi.1 hz9 x1 x2 h0).mono (zRk.of (fun h => absurd h (by decide)))).wide ⟨Nat.le_of_ble_eq_true rfl, Nat.le_of_ble_eq_true rfl, Nat.le_of_ble_eq_true rfl, Nat.le_of_ble_eq_true rfl⟩ ⟨Nat.le_of_ble_eq_true rfl, Nat.le_of_ble_eq_true rfl⟩
  · exact ((c_X3_land_e2 l g q th a' la pe ga sz hi.1 hz9 b x2 h0 h1).mono (zRk.of (fun h => absurd h (by decide)))).wide ⟨Nat.le_of_ble_eq_true rfl, Nat.le_of_ble_eq_true rfl, Nat.le_of_ble_eq_true rfl, Nat.le_of_ble_eq_true rfl⟩ ⟨Nat.le_of_ble_eq_true rfl, Nat.le_of_ble_eq_true rfl⟩
theorem m_alone (l : Launch) (g : zG) (q : Nat → Nat) (th : Int) (a : zS) (la : Nat → Int) (pe : Nat → Nat) (ga : Nat → Int) (sz : Nat → Nat) {v : Int32} {k : Nat} {a' : zS} (hi : zInv a) (h0 : zM0 la pe) (x1 x2 : Int32) (h : sp_alone a x1 x2 k v a') : zM g l yX3_alone wsX3_alone { frames := 5, cells := 0, slots := 0, locals := 111 } [.ref (q 0), .int x1, .int x2] (wM g q th a la pe ga sz) (zRk k v (zMw g q (k : Int) a')) 0 0 := by
  have hz9 := h0
  clear h0
  rcases h with ⟨b, w, h0, h1, rfl, rfl, rfl, rfl, rfl⟩ | ⟨h0, rfl, rfl⟩ | ⟨b, h0, h1, rfl, rfl, rfl⟩
  · exact ((c_X3_alone l g q th a' la pe ga sz hi.1 hz9 b w h0 h1).mono (zRk.of (fun h => rfl))).wide ⟨Nat.le_of_ble_eq_true rfl, Nat.le_of_ble_eq_true rfl, Nat.le_of_ble_eq_true rfl, Nat.le_of_ble_eq_true rfl⟩ ⟨Nat.le_of_ble_eq_true rfl, Nat.le_of_ble_eq_true rfl⟩
  · exact ((c_X3_alone_e1 l g q th a' la pe ga sz hi.1 hz9 x1 x2 h0).mono (zRk.of (fun h => absurd h (by decide)))).wide ⟨Nat.le_of_ble_eq_true rfl, Nat.le_of_ble_eq_true rfl, Nat.le_of_ble_eq_true rfl, Nat.le_of_ble_eq_true rfl⟩ ⟨Nat.le_of_ble_eq_true rfl, Nat.le_of_ble_eq_true rfl⟩
  · exact ((c_X3_alone_e2 l g q th a' la pe ga sz hi.1 hz9 b x2 h0 h1).mono (zRk.of (fun h => absurd h (by decide)))).wide ⟨Nat.le_of_ble_eq_true rfl, Nat.le_of_ble_eq_true rfl, Nat.le_of_ble_eq_true rfl, Nat.le_of_ble_eq_true rfl⟩ ⟨Nat.le_of_ble_eq_true rfl, Nat.le_of_ble_eq_true rfl⟩
theorem m_count (l : Launch) (g : zG) (q : Nat → Nat) (th : Int) (a : zS) (la : Nat → Int) (pe : Nat → Nat) (ga : Nat → Int) (sz : Nat → Nat) {v : Int32} {k : Nat} {a' : zS} (hi : zInv a) (h0 : zM0 la pe) (x1 : Int32) (h : sp_count a x1 k v a') : zM g l yX3_count wsX3_count { frames := 9, cells := 0, slots := 0, locals := 206 } [.ref (q 0), .int x1] (wM g q th a la pe ga sz) (zRk k v (zMw g q (k : Int) a')) 0 0 := by
  have hz9 := h0
  clear h0
  rcases h with ⟨w, h0, rfl, rfl, rfl, rfl⟩ | ⟨h0, rfl, rfl⟩
  · exact ((c_X3_count l g q th a' la pe ga sz hi.1 hz9 w h0).mono (zRk.of (fun h => rfl))).wide ⟨Nat.le_of_ble_eq_true rfl, Nat.le_of_ble_eq_true rfl, Nat.le_of_ble_eq_true rfl, Nat.le_of_ble_eq_true rfl⟩ ⟨Nat.le_of_ble_eq_true rfl, Nat.le_of_ble_eq_true rfl⟩
  · exact ((c_X3_count_e1 l g q th a' la pe ga sz hi.1 hz9 x1 h0).mono (zRk.of (fun h => absurd h (by decide)))).wide ⟨Nat.le_of_ble_eq_true rfl, Nat.le_of_ble_eq_true rfl, Nat.le_of_ble_eq_true rfl, Nat.le_of_ble_eq_true rfl⟩ ⟨Nat.le_of_ble_eq_true rfl, Nat.le_of_ble_eq_true rfl⟩
theorem m_would (l : Launch) (g : zG) (q : Nat → Nat) (th : Int) (a : zS) (la : Nat → Int) (pe : Nat → Nat) (ga : Nat → Int) (sz : Nat → Nat) {v : Int32} {k : Nat} {a' : zS} (hi : zInv a) (h0 : zM0 la pe) (x1 x2 x3 : Int32) (h : sp_would a x1 x2 x3 k v a') : zM g l yX3_would wsX3_would { frames := 9, cells := 0, slots := 0, locals := 207 } [.ref (q 0), .int x1, .int x2, .int x3] (wM g q th a la pe ga sz) (zRk k v (zMw g q (k : Int) a')) 0 0 := by
  have hz9 := h0
  clear h0
  rcases h with ⟨b, j, w, h0, h1, h2, rfl, rfl, rfl, rfl, rfl, rfl⟩ | ⟨h0, rfl, rfl⟩ | ⟨b, h0, h1, rfl, rfl, rfl⟩ | ⟨b, w, h0, h1, h2, rfl, rfl, rfl, rfl⟩
  · exact ((c_X3_would l g q th a' la pe ga sz hi.1 hz9 b j w h0 h1 (zInv_setPr (b := b) hi h1).1 h2).mono (zRk.of (fun h => rfl))).wide ⟨Nat.le_of_ble_eq_true rfl, Nat.le_of_ble_eq_true rfl, Nat.le_of_ble_eq_true rfl, Nat.le_of_ble_eq_true rfl⟩ ⟨Nat.le_of_ble_eq_true rfl, Nat.le_of_ble_eq_true rfl⟩
  · exact ((c_X3_would_e1 l g q th a' la pe ga sz hi.1 hz9 x1 x2 x3 h0).mono (zRk.of (fun h => absurd h (by decide)))).wide ⟨Nat.le_of_ble_eq_true rfl, Nat.le_of_ble_eq_true rfl, Nat.le_of_ble_eq_true rfl, Nat.le_of_ble_eq_true rfl⟩ ⟨Nat.le_of_ble_eq_true rfl, Nat.le_of_ble_eq_true rfl⟩
  · exact ((c_X3_would_e2 l g q th a' la pe ga sz hi.1 hz9 b x2 x3 h0 h1).mono (zRk.of (fun h => absurd h (by decide)))).wide ⟨Nat.le_of_ble_eq_true rfl, Nat.le_of_ble_eq_true rfl, Nat.le_of_ble_eq_true rfl, Nat.le_of_ble_eq_true rfl⟩ ⟨Nat.le_of_ble_eq_true rfl, Nat.le_of_ble_eq_true rfl⟩
  · exact ((c_X3_would_e3 l g q th a' la pe ga sz hi.1 hz9 b x2 w h0 h1 h2).mono (zRk.of (fun h => absurd h (by decide)))).wide ⟨Nat.le_of_ble_eq_true rfl, Nat.le_of_ble_eq_true rfl, Nat.le_of_ble_eq_true rfl, Nat.le_of_ble_eq_true rfl⟩ ⟨Nat.le_of_ble_eq_true rfl, Nat.le_of_ble_eq_true rfl⟩
theorem m_least (l : Launch) (g : zG) (q : Nat → Nat) (th : Int) (a : zS) (la : Nat → Int) (pe : Nat → Nat) (ga : Nat → Int) (sz : Nat → Nat) {v : Int32} {k : Nat} {a' : zS} (hi : zInv a) (h0 : zM0 la pe) (x1 : Int32) (h : sp_least a x1 k v a') : zM g l yX3_least wsX3_least { frames := 9, cells := 0, slots := 0, locals := 207 } [.ref (q 0), .int x1] (wM g q th a la pe ga sz) (zRk k v (zMw g q (k : Int) a')) 0 0 := by
  have hz9 := h0
  clear h0
  rcases h with ⟨b, h0, rfl, rfl, rfl, rfl⟩ | ⟨h0, rfl, rfl⟩
  · exact ((c_X3_least l g q th a' la pe ga sz hi.1 hz9 hi b h0).mono (zRk.of (fun h => rfl))).wide ⟨Nat.le_of_ble_eq_true rfl, Nat.le_of_ble_eq_true rfl, Nat.le_of_ble_eq_true rfl, Nat.le_of_ble_eq_true rfl⟩ ⟨Nat.le_of_ble_eq_true rfl, Nat.le_of_ble_eq_true rfl⟩
  · exact ((c_X3_least_e1 l g q th a' la pe ga sz hi.1 hz9 x1 h0).mono (zRk.of (fun h => absurd h (by decide)))).wide ⟨Nat.le_of_ble_eq_true rfl, Nat.le_of_ble_eq_true rfl, Nat.le_of_ble_eq_true rfl, Nat.le_of_ble_eq_true rfl⟩ ⟨Nat.le_of_ble_eq_true rfl, Nat.le_of_ble_eq_true rfl⟩
