theorem zFst_spec (p : Nat → Bool) : ∀ (k i : Nat), (zFst p i k = -1 ∧ ∀ c, i ≤ c → c < i + k → p c = false) ∨ ∃ c, i ≤ c ∧ c < i + k ∧ zFst p i k = (c : Int) ∧ p c = true
  | 0, i => Or.inl ⟨rfl, fun c h1 h2 => absurd h2 (by omega)⟩
  | k + 1, i => by
    unfold zFst
    by_cases h : p i = true
    · rw [if_pos h]; exact Or.inr ⟨i, Nat.le_refl i, by omega, rfl, h⟩
    · rw [if_neg h]
      rcases zFst_spec p k (i + 1) with ⟨e, h1⟩ | ⟨c, h1, h2, h3, h4⟩
      · refine Or.inl ⟨e, fun c g1 g2 => ?_⟩
        by_cases hc : c = i
        · rw [hc]; simpa using h
        · exact h1 c (by omega) (by omega)
      · exact Or.inr ⟨c, by omega, by omega, h3, h4⟩
theorem zLw_spec (a : zS) (m e : Nat) : ∀ n, (zLw a m n e = -1 ∧ ∀ c, c < n → ¬ (m.testBit c = true ∧ zOw a c = e)) ∨ ∃ c, c < n ∧ zLw a m n e = (c : Int) ∧ m.testBit c = true ∧ zOw a c = e
  | 0 => Or.inl ⟨rfl, fun c h => absurd h (by omega)⟩
  | n + 1 => by
    unfold zLw
    by_cases h : m.testBit n = true ∧ zOw a n = e
    · rw [if_pos h]; exact Or.inr ⟨n, by omega, rfl, h⟩
    · rw [if_neg h]
      rcases zLw_spec a m e n with ⟨g, h1⟩ | ⟨c, h1, h2⟩
      · refine Or.inl ⟨g, fun c g1 => ?_⟩
        by_cases hc : c = n
        · rw [hc]; exact h
        · exact h1 c (by omega)
      · exact Or.inr ⟨c, by omega, h2⟩
theorem zLp_of (a : zS) (ab e : Nat) : ∀ n, zLp a ab n e = if zLw a (zFw a ab).2 n e = -1 then 0 else (zRes a (zBu a (zLw a (zFw a ab).2 n e).toNat) : Int) + zGw a ab e - ((zFw a ab).1 - zGn a (zLw a (zFw a ab).2 n e).toNat)
  | 0 => rfl
  | n + 1 => by
    unfold zLp zLw
    split
    · rw [if_neg (by omega)]; rfl
    · exact zLp_of a ab e n
def mMx (a : zS) (f : Nat) (p : Nat → Bool) : Nat → Nat
  | 0 => zRs a f
  | n + 1 => if p n = true then max (mMx a f p n) (zPr a n) else mMx a f p n
theorem mMx_eq {a : zS} {f : Nat} {p : Nat → Bool} (hp : ∀ b, p b = true → zRs a f ≤ zPr a b) : ∀ n, (mMx a f p n : Int) = if zHi a p n = -1 then (zRs a f : Int) else (zPr a (zHi a p n).toNat : Int)
  | 0 => rfl
  | n + 1 => by
    have ih := mMx_eq hp n
    have hM : mMx a f p (n + 1) = if p n = true then max (mMx a f p n) (zPr a n) else mMx a f p n := rfl
    rw [hM]
    by_cases hpn : p n = true
    · rw [if_pos hpn]
      have h1 := hp n hpn
      rcases zHi_or a p n with e | ⟨c, hc, e, hpc⟩
      · have hz : zHi a p (n + 1) = (n : Int) := if_pos ⟨hpn, Or.inl e⟩
        rw [hz, if_neg (by omega)]
        rw [e, if_pos rfl] at ih
        have ih : mMx a f p n = zRs a f := by omega
        rw [ih, Nat.max_eq_right h1]; rfl
      · rw [e, if_neg (by omega)] at ih
        have ih : mMx a f p n = zPr a c := by
          have : ((c : Int)).toNat = c := rfl
          rw [this] at ih; omega
        by_cases h2 : zPr a c < zPr a n
        · have hz : zHi a p (n + 1) = (n : Int) := if_pos ⟨hpn, Or.inr (by rw [e]; exact h2)⟩
          rw [hz, if_neg (by omega), ih, Nat.max_eq_right (by omega)]; rfl
        · have hz : zHi a p (n + 1) = (c : Int) := by
            show (if p n = true ∧ (zHi a p n = -1 ∨ zPr a (zHi a p n).toNat < zPr a n) then (n : Int) else zHi a p n) = _
            rw [e, if_neg]
            rintro ⟨-, q | q⟩
            · omega
            · exact h2 q
          rw [hz, if_neg (by omega), ih, Nat.max_eq_left (by omega)]; rfl
    · have hz : zHi a p (n + 1) = zHi a p n := if_neg (fun h => hpn h.1)
      rw [if_neg hpn, hz]
      exact ih
theorem zRes_one {a : zS} {f : Nat} (hf : f < zNf a) : zRes a (2 ^ f) = zRs a f := by
  unfold zRes
  have h : ∀ n, zSum (fun i => if (2 ^ f).testBit i = true then zRs a i else 0) n = if f < n then zRs a f else 0 := by
    intro n
    induction n with
    | zero => rfl
    | succ n ih =>
      unfold zSum
      rw [ih, Nat.testBit_two_pow]
      by_cases h : f < n
      · rw [if_pos h, if_neg (by simp; omega), if_pos (by omega)]; omega
      · rw [if_neg h]
        by_cases h2 : f = n
        · subst h2; simp
        · rw [if_neg (by simp; omega), if_neg (by omega)]
  rw [h, if_pos hf]
theorem zCo_ge {a : zS} {f b : Nat} {lo : Int} (hf : f < zNf a) (h : zCo a f lo b = true) : zRs a f ≤ zPr a b := by
  unfold zCo at h
  simp only [Bool.and_eq_true, decide_eq_true_eq] at h
  have h1 := zCn_ge h.1
  unfold zGn at h1
  rw [h.2.1, zRes_one hf] at h1
  omega
def zWnP (a : zS) (d : Nat) : Nat → Bool := fun b => (zFw a 0).2.testBit b && decide (zOw a b = d)
/-- of the bids that win, a bidder has one at most -/
theorem zFw_one {a : zS} (ha : zOk a) {b c : Nat} (hb : (zFw a 0).2.testBit b = true) (hc : (zFw a 0).2.testBit c = true) (h : zOw a b = zOw a c) : b = c := by
  by_cases e : b = c
  · exact e
  · exact absurd h ((zFw_top ha 0).2.1.2.2 b c hb hc e).1
theorem aWin_of {a : zS} (ha : zOk a) {c : Nat} (hc : (zFw a 0).2.testBit c = true) : aWin a (zOw a c) = (c : Int) := by
  have h1 := zbit_lt (zFw_lt ha 0) hc
  unfold aWin
  rcases zLw_spec a (zFw a 0).2 (zOw a c) (zNb a) with ⟨e, h⟩ | ⟨c2, h2, e, h3, h4⟩
  · exact absurd ⟨hc, rfl⟩ (h c h1)
  · rw [e, zFw_one ha h3 hc h4]
theorem zWn_win {a : zS} (ha : zOk a) (d : Nat) : zFst (zWnP a d) 0 (zNb a) = aWin a d := by
  rcases zFst_spec (zWnP a d) (zNb a) 0 with ⟨e1, h1⟩ | ⟨c, -, h1, e1, h2⟩
  · rw [e1]
    unfold aWin
    rcases zLw_spec a (zFw a 0).2 d (zNb a) with ⟨e2, -⟩ | ⟨c2, g1, e2, g2, g3⟩
    · rw [e2]
    · have h9 := h1 c2 (Nat.zero_le _) (by omega)
      unfold zWnP at h9
      simp [g2, g3] at h9
  · unfold zWnP at h2
    simp only [Bool.and_eq_true, decide_eq_true_eq] at h2
    rw [e1, ← h2.2, aWin_of ha h2.1]
theorem aWin_or {a : zS} (d : Nat) : aWin a d = -1 ∨ ∃ c, c < zNb a ∧ aWin a d = (c : Int) ∧ (zFw a 0).2.testBit c = true ∧ zOw a c = d := zLw_or a _ d _
theorem aPaid_n {a : zS} {d : Nat} (h : aWin a d = -1) : aPaid a d = 0 := by
  unfold aPaid
  rw [zLp_of]
  exact if_pos h
theorem aPaid_y {a : zS} {d c : Nat} (hd : d < zNd a) (h : aWin a d = (c : Int)) : aPaid a d = (zRes a (zBu a c) : Int) + (zFw a (2 ^ d)).1 - ((zFw a 0).1 - zGn a c) := by
  have h1 : zLw a (zFw a 0).2 (zNb a) d = (c : Int) := h
  unfold aPaid
  rw [zLp_of, h1, if_neg (by omega)]
  unfold zGw
  rw [if_pos hd, Nat.zero_or]
  rfl
def zSim (g : zG) (q : Nat → Nat) (a : zS) : va_W → Prop := fun w' => ∃ sm : Int × Nat × Nat, w' = wS g q a sm
theorem inX3_won_X3 : ∀ w ∈ wsX30, w ∈ wsX3_won := fun w h => List.mem_cons_of_mem _ (List.mem_append_right _ (h))
set_option maxRecDepth 100000 in
set_option maxHeartbeats 4000000 in
theorem c_X3_won (l : Launch) (g : zG) (q : Nat → Nat) (a : zS) (sm : Int × Nat × Nat) (ha : zOk a) (d : Nat) (hd : d < zNd a) : zM g l yX3_won wsX3_won { frames := 10, cells := 0, slots := 0, locals := 248 } [.ref (q 0), .int (nI d)] (wS g q a sm) (zPi (iZ (aWin a d)) (wS g q a (zT3 (zFw a 0)))) 0 0 := by
  refine zM.of (cc := cX3_won) (nL := 4) (ret := (some .int)) (lv := [(0, .ref (q 0)), (1, .int (nI d))]) (by decide) rfl (Nat.le_of_ble_eq_true rfl) rfl ?_
  intro E C0 hi
  have C : zC g E cX3_won RX3 wsX3_won 4 (some .int) := C0
  obtain ⟨hnf, hnd, hnb, hou, hrs, hbd⟩ := id ha
  have hs0 := zFw_ok ha 0
  obtain ⟨hs1, hs2, hs3⟩ := id hs0
  refine z_aload_n C dX3_won_0 0 rfl ?_
  refine z_iconst C (iZ (-1)) dX3_won_1 (by decide) ?_
  refine z_callV C (c_X3_sale l g q a sm ha (-1) ⟨by decide, by decide⟩ (zFw a 0) (zCh_all ha)) (cwV 1 C.ts gX3_won_X3_sale rfl rfl rfl (by decide +kernel) ⟨Nat.le_of_ble_eq_true rfl, Nat.le_of_ble_eq_true rfl⟩) wS_o rfl rfl rfl (Nat.le_of_ble_eq_true rfl) dX3_won_2 ⟨Nat.zero_le _, Nat.zero_le _⟩ (z_i ?_)
  refine z_istore_n C dX3_won_5 (by decide) [(2, .int (nI ((zFw a 0).2))), (0, .ref (q 0)), (1, .int (nI d))] rfl ?_
  refine z_iconst C (nI 0) dX3_won_6 (by decide) ?_
  refine z_istore_n C dX3_won_7 (by decide) [(3, .int (nI 0)), (2, .int (nI ((zFw a 0).2))), (0, .ref (q 0)), (1, .int (nI d))] rfl ?_
  refine zW.pick (lv' := [(0, .ref (q 0)), (1, .int (nI d)), (2, .int (nI ((zFw a 0).2))), (3, .int (nI 0))]) [2, 3, 1, 0] rfl ?_
  have hlp8 : ∀ (k i : Nat), i + k = zNb a → (zFst (zWnP a d) i k = zFst (zWnP a d) 0 (zNb a)) → zW g l ({ frames := 10, cells := 0, slots := 0, locals := 248 }) E (zMQ g E (zPi (iZ (aWin a d)) (wS g q a (zT3 (zFw a 0)))) 0 0) 4 0 0 (wS g q a (zT3 (zFw a 0))) [(0, .ref (q 0)), (1, .int (nI d)), (2, .int (nI ((zFw a 0).2))), (3, .int (nI i))] [] 8 := by
    intro k
    induction k with
    | zero =>
      intro i hik hr
      refine z_iload_n C dX3_won_8 3 rfl ?_
      refine z_aload_n C dX3_won_9 0 rfl ?_
      refine z_get C inX3_won_X3 0 wS_o rfl 2 (by decide) (C.w 1 rfl) rfl dX3_won_10 ?_
      refine z_alenR C 3 wS_bi dX3_won_13 ?_
      refine z_icmp_ge C 46 dX3_won_14 (by decide) (zle_NN (by omega) (by omega)) (fun c_14 => ?_) (fun h9 => absurd (by omega) h9)
      refine z_iconst C (iZ (-1)) dX3_won_46 (by decide) ?_
      exact z_iretP C dX3_won_47 (by rw [← zWn_win ha, ← hr]; rfl) rfl
    | succ k ih8 =>
      intro i hik hr
      have hdl : (zFw a 0).2 / 2 ^ i ≤ (zFw a 0).2 := Nat.div_le_self _ _
      refine z_iload_n C dX3_won_8 3 rfl ?_
      refine z_aload_n C dX3_won_9 0 rfl ?_
      refine z_get C inX3_won_X3 0 wS_o rfl 2 (by decide) (C.w 1 rfl) rfl dX3_won_10 ?_
      refine z_alenR C 3 wS_bi dX3_won_13 ?_
      refine z_icmp_ge C 46 dX3_won_14 (by decide) (zle_NN (by omega) (by omega)) (fun h9 => absurd h9 (by omega)) (fun c_14 => ?_)
      refine z_iload_n C dX3_won_17 2 rfl ?_
      refine z_iload_n C dX3_won_18 3 rfl ?_
      refine z_ishr C dX3_won_19 (v := nI (((zFw a 0).2) / 2 ^ i)) (zshr_NN (by omega) (by omega)) ?_
      refine z_iconst C (nI 2) dX3_won_20 (by decide) ?_
      refine z_irem C dX3_won_21 (by decide) (v := bI ((zFw a 0).2.testBit i)) (zrem_bit (by omega)) ?_
      refine z_iconst C (nI 1) dX3_won_22 (by decide) ?_
      refine z_icmp_ne C 40 dX3_won_23 (by decide) (zeq_B1 _) (fun c_23 => ?_) (fun c_23 => ?_)
      · skip
        refine z_iinc C dX3_won_40 3 (nI (i + 1)) rfl (nI_add i 1) (by decide) [(3, .int (nI (i + 1))), (0, .ref (q 0)), (1, .int (nI d)), (2, .int (nI ((zFw a 0).2)))] rfl ?_
        refine z_goto C 8 dX3_won_43 (by decide) ?_
        refine zW.pick (lv' := [(0, .ref (q 0)), (1, .int (nI d)), (2, .int (nI ((zFw a 0).2))), (3, .int (nI (i + 1)))]) [1, 2, 3, 0] rfl ?_
        exact ih8 (i + 1) (by omega) (by rw [← hr]; simp_all [zFst, zWnP])
      · skip
        refine z_aload_n C dX3_won_26 0 rfl ?_
        refine z_get C inX3_won_X3 0 wS_o rfl 2 (by decide) (C.w 1 rfl) rfl dX3_won_27 ?_
        refine z_iload_n C dX3_won_30 3 rfl ?_
        refine z_aald C 3 wS_bi (by omega) (by omega) dX3_won_31 (zPt_at (by omega)) ?_
        refine z_iconst C (nI 0) dX3_won_32 (by decide) ?_
        refine z_ialdN C (4 + i) (wS_row (b := i) (by omega)) (by omega) (by decide) dX3_won_33 (v := nI (zOw a i)) rfl ?_
        have f_33b := ha.ow (b := i) (by omega)
        refine z_iload_n C dX3_won_34 1 rfl ?_
        refine z_icmp_ne C 40 dX3_won_35 (by decide) (zeq_NN (by omega) (by omega)) (fun c_35 => ?_) (fun c_35 => ?_)
        · skip
          refine z_iinc C dX3_won_40 3 (nI (i + 1)) rfl (nI_add i 1) (by decide) [(3, .int (nI (i + 1))), (0, .ref (q 0)), (1, .int (nI d)), (2, .int (nI ((zFw a 0).2)))] rfl ?_
          refine z_goto C 8 dX3_won_43 (by decide) ?_
          refine zW.pick (lv' := [(0, .ref (q 0)), (1, .int (nI d)), (2, .int (nI ((zFw a 0).2))), (3, .int (nI (i + 1)))]) [1, 2, 3, 0] rfl ?_
          exact ih8 (i + 1) (by omega) (by rw [← hr]; simp_all [zFst, zWnP])
        · skip
          refine z_iload_n C dX3_won_38 3 rfl ?_
          exact z_iretP C dX3_won_39 (congrArg iZ ((show (i : Int) = zFst (zWnP a d) 0 (zNb a) by simp_all [zFst, zWnP]).trans (zWn_win ha d))) rfl
  exact hlp8 (zNb a) 0 (by omega) rfl
theorem inX3_pays_X3 : ∀ w ∈ wsX30, w ∈ wsX3_pays := fun w h => List.mem_cons_of_mem _ (List.mem_append_right _ (h))
set_option maxRecDepth 100000 in
set_option maxHeartbeats 4000000 in
theorem c_X3_pays (l : Launch) (g : zG) (q : Nat → Nat) (a : zS) (sm : Int × Nat × Nat) (ha : zOk a) (d : Nat) (hd : d < zNd a) : zM g l yX3_pays wsX3_pays { frames := 11, cells := 0, slots := 0, locals := 271 } [.ref (q 0), .int (nI d)] (wS g q a sm) (zPie (iZ (aPaid a d)) (zSim g q a)) 0 0 := by
  refine zM.of (cc := cX3_pays) (nL := 4) (ret := (some .int)) (lv := [(0, .ref (q 0)), (1, .int (nI d))]) (by decide) rfl (Nat.le_of_ble_eq_true rfl) rfl ?_
  intro E C0 hi
  have C : zC g E cX3_pays RX3 wsX3_pays 4 (some .int) := C0
  obtain ⟨hnf, hnd, hnb, hou, hrs, hbd⟩ := id ha
  have hs0 := zFw_ok ha 0
  obtain ⟨hs1, hs2, hs3⟩ := id hs0
  have hw0 := zFw_ok ha (2 ^ d)
  obtain ⟨hw1, hw2, hw3⟩ := id hw0
  refine z_aload_n C dX3_pays_0 0 rfl ?_
  refine z_iload_n C dX3_pays_1 1 rfl ?_
  refine z_callV C (c_X3_won l g q a sm ha d (by omega)) (cwV 1 C.ts gX3_pays_X3_won rfl rfl rfl (by decide +kernel) ⟨Nat.le_of_ble_eq_true rfl, Nat.le_of_ble_eq_true rfl⟩) wS_o rfl rfl rfl (Nat.le_of_ble_eq_true rfl) dX3_pays_2 ⟨Nat.zero_le _, Nat.zero_le _⟩ (z_i ?_)
  rcases aWin_or (a := a) d with hwn | ⟨c, hc, hwn, hcb, hco⟩
  · skip
    refine zW.top (y := iZ (-1)) (congrArg iZ hwn) ?_
    refine z_istore_n C dX3_pays_5 (by decide) [(2, .int (iZ (-1))), (0, .ref (q 0)), (1, .int (nI d))] rfl ?_
    refine z_iload_n C dX3_pays_6 0 rfl ?_
    refine z_if_ge C 12 dX3_pays_7 (by decide) (zle_0Z (by unfold zB31; omega)) (fun h9 => absurd h9 (by omega)) (fun c_7 => ?_)
    refine z_iconst C (nI 0) dX3_pays_10 (by decide) ?_
    exact z_iretE C dX3_pays_11 (by rw [aPaid_n hwn]; rfl) ⟨_, rfl⟩
  · skip
    refine zW.top (y := nI c) (congrArg iZ hwn) ?_
    refine z_istore_n C dX3_pays_5 (by decide) [(2, .int (nI c)), (0, .ref (q 0)), (1, .int (nI d))] rfl ?_
    refine z_iload_n C dX3_pays_6 0 rfl ?_
    refine z_if_ge C 12 dX3_pays_7 (by decide) (zle_0N (by omega)) (fun c_7 => ?_) (fun h9 => absurd trivial h9)
    refine z_aload_n C dX3_pays_12 1 rfl ?_
    refine z_get C inX3_pays_X3 0 wS_o rfl 3 (by decide) (C.w 1 rfl) rfl dX3_pays_13 ?_
    refine z_aload_n C dX3_pays_16 1 rfl ?_
    refine z_iload_n C dX3_pays_17 0 rfl ?_
    refine z_callV C (c_X3_gain l g q a (zT3 (zFw a 0)) ha c (by omega)) (cwV 1 C.ts gX3_pays_X3_gain rfl rfl rfl (by decide +kernel) ⟨Nat.le_of_ble_eq_true rfl, Nat.le_of_ble_eq_true rfl⟩) wS_o rfl rfl rfl (Nat.le_of_ble_eq_true rfl) dX3_pays_18 ⟨Nat.zero_le _, Nat.zero_le _⟩ (z_i ?_)
    refine z_isub C dX3_pays_21 (v := iZ (((zFw a 0).1) - (zGn a c))) (iZ_sub ((zFw a 0).1) (zGn a c)) ?_
    refine z_istore_n C dX3_pays_22 (by decide) [(3, .int (iZ (((zFw a 0).1) - (zGn a c)))), (2, .int (nI c)), (0, .ref (q 0)), (1, .int (nI d))] rfl ?_
    refine z_aload_n C dX3_pays_23 2 rfl ?_
    refine z_iload_n C dX3_pays_24 3 rfl ?_
    refine z_callV C (c_X3_sale l g q a (zT3 (zFw a 0)) ha ((d : Nat) : Int) ⟨by omega, by omega⟩ (zFw a (2 ^ d)) (zCh_wo ha d)) (cwV 1 C.ts gX3_pays_X3_sale rfl rfl rfl (by decide +kernel) ⟨Nat.le_of_ble_eq_true rfl, Nat.le_of_ble_eq_true rfl⟩) wS_o rfl rfl rfl (Nat.le_of_ble_eq_true rfl) dX3_pays_25 ⟨Nat.zero_le _, Nat.zero_le _⟩ (z_i ?_)
    refine z_pop C dX3_pays_28 rfl ?_
    refine z_aload_n C dX3_pays_29 2 rfl ?_
    refine z_aload_n C dX3_pays_30 2 rfl ?_
    refine z_get C inX3_pays_X3 0 wS_o rfl 2 (by decide) (C.w 2 rfl) rfl dX3_pays_31 ?_
    refine z_iload_n C dX3_pays_34 1 rfl ?_
    refine z_aald C 3 wS_bi (by omega) (by omega) dX3_pays_35 (zPt_at (by omega)) ?_
    refine z_iconst C (nI 1) dX3_pays_36 (by decide) ?_
    refine z_ialdN C (4 + c) (wS_row (b := c) (by omega)) (by omega) (by decide) dX3_pays_37 (v := nI (zBu a c)) rfl ?_
    have f_37b := ha.bu8 (b := c) (by omega)
    refine z_callV C (c_X3_reserve l g q a (zT3 (zFw a (2 ^ d))) ha (zBu a c) (by omega)) (cwV 1 C.ts gX3_pays_X3_reserve rfl rfl rfl (by decide +kernel) ⟨Nat.le_of_ble_eq_true rfl, Nat.le_of_ble_eq_true rfl⟩) wS_o rfl rfl rfl (Nat.le_of_ble_eq_true rfl) dX3_pays_38 ⟨Nat.zero_le _, Nat.zero_le _⟩ (z_i ?_)
    refine z_aload_n C dX3_pays_41 2 rfl ?_
    refine z_get C inX3_pays_X3 0 wS_o rfl 3 (by decide) (C.w 1 rfl) rfl dX3_pays_42 ?_
    refine z_iadd C dX3_pays_45 (v := iZ (((zRes a (zBu a c) : Nat) : Int) + ((zFw a (2 ^ d)).1))) (iZ_add ((zRes a (zBu a c) : Nat) : Int) ((zFw a (2 ^ d)).1)) ?_
    refine z_iload_n C dX3_pays_46 0 rfl ?_
    refine z_isub C dX3_pays_47 (v := iZ ((((zRes a (zBu a c) : Nat) : Int) + ((zFw a (2 ^ d)).1)) - (((zFw a 0).1) - (zGn a c)))) (iZ_sub (((zRes a (zBu a c) : Nat) : Int) + ((zFw a (2 ^ d)).1)) (((zFw a 0).1) - (zGn a c))) ?_
    exact z_iretE C dX3_pays_48 (by rw [aPaid_y hd hwn]) ⟨_, rfl⟩
theorem inX3_profit_X3 : ∀ w ∈ wsX30, w ∈ wsX3_profit := fun w h => List.mem_cons_of_mem _ (List.mem_append_right _ (h))
set_option maxRecDepth 100000 in
set_option maxHeartbeats 4000000 in
theorem c_X3_profit (l : Launch) (g : zG) (q : Nat → Nat) (a : zS) (sm : Int × Nat × Nat) (ha : zOk a) (d : Nat) (hd : d < zNd a) : zM g l yX3_profit wsX3_profit { frames := 12, cells := 0, slots := 0, locals := 294 } [.ref (q 0), .int (nI d)] (wS g q a sm) (zPie (iZ (aProf a d)) (zSim g q a)) 0 0 := by
  refine zM.of (cc := cX3_profit) (nL := 2) (ret := (some .int)) (lv := [(0, .ref (q 0)), (1, .int (nI d))]) (by decide) rfl (Nat.le_of_ble_eq_true rfl) rfl ?_
  intro E C0 hi
  have C : zC g E cX3_profit RX3 wsX3_profit 2 (some .int) := C0
  obtain ⟨hnf, hnd, hnb, hou, hrs, hbd⟩ := id ha
  have hs0 := zFw_ok ha 0
  obtain ⟨hs1, hs2, hs3⟩ := id hs0
  have hw0 := zFw_ok ha (2 ^ d)
  obtain ⟨hw1, hw2, hw3⟩ := id hw0
  refine z_aload_n C dX3_profit_0 0 rfl ?_
  refine z_iload_n C dX3_profit_1 1 rfl ?_
  refine z_callV C (c_X3_won l g q a sm ha d (by omega)) (cwV 1 C.ts gX3_profit_X3_won rfl rfl rfl (by decide +kernel) ⟨Nat.le_of_ble_eq_true rfl, Nat.le_of_ble_eq_true rfl⟩) wS_o rfl rfl rfl (Nat.le_of_ble_eq_true rfl) dX3_profit_2 ⟨Nat.zero_le _, Nat.zero_le _⟩ (z_i ?_)
  rcases aWin_or (a := a) d with hwn | ⟨c, hc, hwn, hcb, hco⟩
  · skip
    refine zW.top (y := iZ (-1)) (congrArg iZ hwn) ?_
    refine z_if_ge C 12 dX3_profit_5 (by decide) (zle_0Z (by unfold zB31; omega)) (fun h9 => absurd h9 (by omega)) (fun c_5 => ?_)
    refine z_iconst C (nI 0) dX3_profit_8 (by decide) ?_
    refine z_goto C 30 dX3_profit_9 (by decide) ?_
    exact z_iretE C dX3_profit_30 (by unfold aProf zPfv; rw [if_pos hwn]; rfl) ⟨_, rfl⟩
  · skip
    refine zW.top (y := nI c) (congrArg iZ hwn) ?_
    refine z_if_ge C 12 dX3_profit_5 (by decide) (zle_0N (by omega)) (fun c_5 => ?_) (fun h9 => absurd trivial h9)
    refine z_aload_n C dX3_profit_12 0 rfl ?_
    refine z_get C inX3_profit_X3 0 wS_o rfl 2 (by decide) (C.w 1 rfl) rfl dX3_profit_13 ?_
    refine z_aload_n C dX3_profit_16 0 rfl ?_
    refine z_iload_n C dX3_profit_17 1 rfl ?_
    refine z_callV C (c_X3_won l g q a (zT3 (zFw a 0)) ha d (by omega)) (cwV 1 C.ts gX3_profit_X3_won rfl rfl rfl (by decide +kernel) ⟨Nat.le_of_ble_eq_true rfl, Nat.le_of_ble_eq_true rfl⟩) wS_o rfl rfl rfl (Nat.le_of_ble_eq_true rfl) dX3_profit_18 ⟨Nat.zero_le _, Nat.zero_le _⟩ (z_i ?_)
    refine zW.top (y := nI c) (congrArg iZ hwn) ?_
    refine z_aald C 3 wS_bi (by omega) (by omega) dX3_profit_21 (zPt_at (by omega)) ?_
    refine z_iconst C (nI 3) dX3_profit_22 (by decide) ?_
    refine z_ialdN C (4 + c) (wS_row (b := c) (by omega)) (by omega) (by decide) dX3_profit_23 (v := nI (zWo a c)) rfl ?_
    have f_23b := ha.wo (b := c) (by omega)
    refine z_aload_n C dX3_profit_24 0 rfl ?_
    refine z_iload_n C dX3_profit_25 1 rfl ?_
    refine z_callV C (c_X3_pays l g q a (zT3 (zFw a 0)) ha d (by omega)) (cwV 1 C.ts gX3_profit_X3_pays rfl rfl rfl (by decide +kernel) ⟨Nat.le_of_ble_eq_true rfl, Nat.le_of_ble_eq_true rfl⟩) wS_o rfl rfl rfl (Nat.le_of_ble_eq_true rfl) dX3_profit_26 ⟨Nat.zero_le _, Nat.zero_le _⟩ (z_ie ?_)
    rintro _ ⟨sm26, rfl⟩
    refine z_isub C dX3_profit_29 (v := iZ (((zWo a c : Nat) : Int) - (aPaid a d))) (iZ_sub ((zWo a c : Nat) : Int) (aPaid a d)) ?_
    exact z_iretE C dX3_profit_30 (by unfold aProf zPfv; rw [hwn, if_neg (by omega)]; rfl) ⟨_, rfl⟩
