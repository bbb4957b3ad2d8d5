/-- what a winning bid brings its bidder -/
def zPfv (a : zS) (w p : Int) : Int := if w = -1 then 0 else (zWo a w.toNat : Int) - p
def zOrs (f : Nat → Nat) : Nat → Nat
  | 0 => 0
  | n + 1 => zOrs f n ||| f n
/-- of the bids below n for which p holds, the one with the highest price, of several the first; -1 without one -/
def zHi (a : zS) (p : Nat → Bool) : Nat → Int
  | 0 => -1
  | n + 1 => if p n = true ∧ (zHi a p n = -1 ∨ zPr a (zHi a p n).toNat < zPr a n) then (n : Int) else zHi a p n
theorem zHi_or (a : zS) (p : Nat → Bool) (n : Nat) : zHi a p n = -1 ∨ ∃ c, c < n ∧ zHi a p n = (c : Int) ∧ p c = true := by
  induction n with
  | zero => exact Or.inl rfl
  | succ n ih =>
    unfold zHi
    split
    · next h => exact Or.inr ⟨n, by omega, rfl, h.1⟩
    · rcases ih with h | ⟨c, h1, h2, h3⟩
      · exact Or.inl h
      · exact Or.inr ⟨c, by omega, h2, h3⟩
theorem zFst_or (p : Nat → Bool) : ∀ (k i : Nat), zFst p i k = -1 ∨ ∃ c, c < i + k ∧ zFst p i k = (c : Int) ∧ p c = true := by
  intro k
  induction k with
  | zero => exact fun _ => Or.inl rfl
  | succ k ih =>
    intro i
    unfold zFst
    split
    · next h => exact Or.inr ⟨i, by omega, rfl, h⟩
    · rcases ih (i + 1) with h | ⟨c, h1, h2⟩
      · exact Or.inl h
      · exact Or.inr ⟨c, by omega, h2⟩
theorem zLw_or (a : zS) (m : Nat) (e : Nat) : ∀ n, zLw a m n e = -1 ∨ ∃ c, c < n ∧ zLw a m n e = (c : Int) ∧ m.testBit c = true ∧ zOw a c = e := by
  intro n
  induction n with
  | zero => exact Or.inl rfl
  | succ n ih =>
    unfold zLw
    split
    · next h => exact Or.inr ⟨n, by omega, rfl, h⟩
    · rcases ih with h | ⟨c, h1, h2⟩
      · exact Or.inl h
      · exact Or.inr ⟨c, by omega, h2⟩
/-- who competes for the field f alone, the bidder lo left out -/
def zCo (a : zS) (f : Nat) (lo : Int) (b : Nat) : Bool := zCn a (zOu a) b && (decide (zBu a b = 2 ^ f) && decide ((zOw a b : Int) ≠ lo))
theorem inX2_profit_X1 : ∀ w ∈ wsX10, w ∈ wsX2_profit := fun w h => List.mem_cons_of_mem _ (List.mem_append_left _ (List.mem_append_right _ (h)))
set_option maxRecDepth 100000 in
set_option maxHeartbeats 4000000 in
theorem c_X2_profit_no (l : Launch) (g : zG) (q : Nat → Nat) (a : zS) (bs : Nat → Int × Nat) (wb pd gw : Nat → Nat → Int) (z : Nat) (ha : zOk a) (hz : z < 2) (d : Nat) (hd : d < 5) (hw : wb z d = -1) : zM g l yX2_profit wsX2_profit { frames := 0, cells := 0, slots := 0, locals := 0 } [.ref (q 0), .ref (q (12 + z)), .int (nI d)] (wB g q a (zG0 a) bs wb pd gw) (zPi (iZ (zPfv a (wb z d) (pd z d))) (wB g q a (zG0 a) bs wb pd gw)) 0 0 := by
  refine zM.of (cc := cX2_profit) (nL := 4) (ret := (some .int)) (lv := [(0, .ref (q 0)), (1, .ref (q (12 + z))), (2, .int (nI d))]) (by decide) rfl (Nat.le_of_ble_eq_true rfl) rfl ?_
  intro E C0 hi
  have C : zC g E cX2_profit RX2 wsX2_profit 4 (some .int) := C0
  obtain ⟨hnf, hnd, hnb, hou, hrs, hbd⟩ := id ha
  refine z_aload_n C dX2_profit_0 1 rfl ?_
  refine z_getN C inX2_profit_X1 (12 + z) (wB_sl (z := z) hz) rfl 1 (by decide) 3 rfl rfl dX2_profit_1 ?_
  refine z_iload_n C dX2_profit_4 2 rfl ?_
  refine z_ialdN C (14 + z) (wB_wb (z := z) hz) (by omega) (by decide) dX2_profit_5 (v := iZ (wb z d)) rfl ?_
  refine zW.top (y := iZ (-1)) (by rw [hw]) ?_
  refine z_istore_n C dX2_profit_6 (by decide) [(3, .int (iZ (-1))), (0, .ref (q 0)), (1, .ref (q (12 + z))), (2, .int (nI d))] rfl ?_
  refine z_iload_n C dX2_profit_7 0 rfl ?_
  refine z_iconst C (iZ (-1)) dX2_profit_8 (by decide) ?_
  refine z_icmp_ne C 16 dX2_profit_9 (by decide) (zeq_ZZ (x := (-1)) (y := (-1)) (by unfold zB31; omega) (by unfold zB31; omega)) (fun h9 => absurd (by decide) h9) (fun c_9 => ?_)
  refine z_iconst C (nI 0) dX2_profit_12 (by decide) ?_
  refine z_goto C 29 dX2_profit_13 (by decide) ?_
  exact z_iretP C dX2_profit_29 (by rw [hw]; rfl) rfl
theorem inX2_profit_X2 : ∀ w ∈ wsX20, w ∈ wsX2_profit := fun w h => List.mem_cons_of_mem _ (List.mem_append_right _ (h))
set_option maxRecDepth 100000 in
set_option maxHeartbeats 4000000 in
theorem c_X2_profit_b (l : Launch) (g : zG) (q : Nat → Nat) (a : zS) (bs : Nat → Int × Nat) (wb pd gw : Nat → Nat → Int) (z : Nat) (ha : zOk a) (hz : z < 2) (d : Nat) (hd : d < 5) (c : Nat) (hc : c < zNb a) (hw : wb z d = (c : Int)) : zM g l yX2_profit wsX2_profit { frames := 0, cells := 0, slots := 0, locals := 0 } [.ref (q 0), .ref (q (12 + z)), .int (nI d)] (wB g q a (zG0 a) bs wb pd gw) (zPi (iZ (zPfv a (wb z d) (pd z d))) (wB g q a (zG0 a) bs wb pd gw)) 0 0 := by
  refine zM.of (cc := cX2_profit) (nL := 4) (ret := (some .int)) (lv := [(0, .ref (q 0)), (1, .ref (q (12 + z))), (2, .int (nI d))]) (by decide) rfl (Nat.le_of_ble_eq_true rfl) rfl ?_
  intro E C0 hi
  have C : zC g E cX2_profit RX2 wsX2_profit 4 (some .int) := C0
  obtain ⟨hnf, hnd, hnb, hou, hrs, hbd⟩ := id ha
  refine z_aload_n C dX2_profit_0 1 rfl ?_
  refine z_getN C inX2_profit_X1 (12 + z) (wB_sl (z := z) hz) rfl 1 (by decide) 3 rfl rfl dX2_profit_1 ?_
  refine z_iload_n C dX2_profit_4 2 rfl ?_
  refine z_ialdN C (14 + z) (wB_wb (z := z) hz) (by omega) (by decide) dX2_profit_5 (v := iZ (wb z d)) rfl ?_
  refine zW.top (y := nI c) (by rw [hw]; rfl) ?_
  refine z_istore_n C dX2_profit_6 (by decide) [(3, .int (nI c)), (0, .ref (q 0)), (1, .ref (q (12 + z))), (2, .int (nI d))] rfl ?_
  refine z_iload_n C dX2_profit_7 0 rfl ?_
  refine z_iconst C (iZ (-1)) dX2_profit_8 (by decide) ?_
  refine z_icmp_ne C 16 dX2_profit_9 (by decide) (zeq_ZZ (x := ((c : Nat) : Int)) (y := (-1)) (by unfold zB31; omega) (by unfold zB31; omega)) (fun c_9 => ?_) (fun h9 => absurd h9 (by omega))
  refine z_aload_n C dX2_profit_16 1 rfl ?_
  refine z_get C inX2_profit_X2 0 wB_o rfl 8 (by decide) (C.w 1 rfl) rfl dX2_profit_17 ?_
  refine z_iload_n C dX2_profit_20 0 rfl ?_
  refine z_ialdN C 7 wB_wo (by omega) (by decide) dX2_profit_21 (v := nI (zWo a c)) rfl ?_
  have f_21b := (ha.wo (b := c) (by omega))
  refine z_aload_n C dX2_profit_22 2 rfl ?_
  refine z_getN C inX2_profit_X1 (12 + z) (wB_sl (z := z) hz) rfl 2 (by decide) 4 rfl rfl dX2_profit_23 ?_
  refine z_iload_n C dX2_profit_26 3 rfl ?_
  refine z_ialdN C (16 + z) (wB_pd (z := z) hz) (by omega) (by decide) dX2_profit_27 (v := iZ (pd z d)) rfl ?_
  refine z_isub C dX2_profit_28 (v := iZ (((zWo a c : Nat) : Int) - (pd z d))) (iZ_sub ((zWo a c : Nat) : Int) (pd z d)) ?_
  exact z_iretP C dX2_profit_29 (by rw [hw]; unfold zPfv; rw [if_neg (by omega)]; rfl) rfl
theorem c_X2_profit (l : Launch) (g : zG) (q : Nat → Nat) (a : zS) (bs : Nat → Int × Nat) (wb pd gw : Nat → Nat → Int) (z : Nat) (ha : zOk a) (hz : z < 2) (d : Nat) (hd : d < 5) (hw : wb z d = -1 ∨ ∃ c, c < zNb a ∧ wb z d = (c : Int)) : zM g l yX2_profit wsX2_profit { frames := 0, cells := 0, slots := 0, locals := 0 } [.ref (q 0), .ref (q (12 + z)), .int (nI d)] (wB g q a (zG0 a) bs wb pd gw) (zPi (iZ (zPfv a (wb z d) (pd z d))) (wB g q a (zG0 a) bs wb pd gw)) 0 0 := by
  rcases hw with h | ⟨c, hc, h⟩
  · exact c_X2_profit_no l g q a bs wb pd gw z ha hz d hd h
  · exact c_X2_profit_b l g q a bs wb pd gw z ha hz d hd c hc h
theorem inX1_totalPaid_X1 : ∀ w ∈ wsX10, w ∈ wsX1_totalPaid := fun w h => List.mem_cons_of_mem _ (List.mem_append_right _ (h))
set_option maxRecDepth 100000 in
set_option maxHeartbeats 4000000 in
theorem c_X1_totalPaid (l : Launch) (g : zG) (q : Nat → Nat) (a : zS) (bs : Nat → Int × Nat) (wb pd gw : Nat → Nat → Int) (z : Nat) (hz : z < 2) : zM g l yX1_totalPaid wsX1_totalPaid { frames := 0, cells := 0, slots := 0, locals := 0 } [.ref (q (12 + z))] (wB g q a (zG0 a) bs wb pd gw) (zPi (iZ (zSi (pd z) 5)) (wB g q a (zG0 a) bs wb pd gw)) 0 0 := by
  refine zM.of (cc := cX1_totalPaid) (nL := 6) (ret := (some .int)) (lv := [(0, .ref (q (12 + z)))]) (by decide) rfl (Nat.le_of_ble_eq_true rfl) rfl ?_
  intro E C0 hi
  have C : zC g E cX1_totalPaid RX1 wsX1_totalPaid 6 (some .int) := C0
  refine z_iconst C (nI 0) dX1_totalPaid_0 (by decide) ?_
  refine z_istore_n C dX1_totalPaid_1 (by decide) [(1, .int (nI 0)), (0, .ref (q (12 + z)))] rfl ?_
  refine z_aload_n C dX1_totalPaid_2 1 rfl ?_
  refine z_get C inX1_totalPaid_X1 (12 + z) (wB_sl (z := z) hz) rfl 2 (by decide) (C.w 1 rfl) rfl dX1_totalPaid_3 ?_
  refine z_astore_n C dX1_totalPaid_6 (by decide) [(2, .ref (q (16 + z))), (1, .int (nI 0)), (0, .ref (q (12 + z)))] rfl ?_
  refine z_aload_n C dX1_totalPaid_7 0 rfl ?_
  refine z_alenI C (16 + z) (wB_pd (z := z) hz) dX1_totalPaid_8 ?_
  refine z_istore_n C dX1_totalPaid_9 (by decide) [(3, .int (nI 5)), (2, .ref (q (16 + z))), (1, .int (nI 0)), (0, .ref (q (12 + z)))] rfl ?_
  refine z_iconst C (nI 0) dX1_totalPaid_10 (by decide) ?_
  refine z_istore C dX1_totalPaid_11 (by decide) [(4, .int (nI 0)), (3, .int (nI 5)), (2, .ref (q (16 + z))), (1, .int (nI 0)), (0, .ref (q (12 + z)))] rfl ?_
  refine zW.pick (lv' := [(0, .ref (q (12 + z))), (1, .int (nI 0)), (2, .ref (q (16 + z))), (3, .int (nI 5)), (4, .int (nI 0))]) [4, 3, 2, 1, 0] rfl ?_
  have hlp13 : ∀ (k i : Nat), i + k = 5 → zW g l ({ frames := 0, cells := 0, slots := 0, locals := 0 }) E (zMQ g E (zPi (iZ (zSi (pd z) 5)) (wB g q a (zG0 a) bs wb pd gw)) 0 0) 6 0 0 (wB g q a (zG0 a) bs wb pd gw) [(0, .ref (q (12 + z))), (1, .int (iZ (zSi (pd z) i))), (2, .ref (q (16 + z))), (3, .int (nI 5)), (4, .int (nI i))] [] 13 := by
    intro k
    induction k with
    | zero =>
      intro i hik
      refine z_iload C dX1_totalPaid_13 4 rfl ?_
      refine z_iload_n C dX1_totalPaid_15 3 rfl ?_
      refine z_icmp_ge C 36 dX1_totalPaid_16 (by decide) (zle_NN (by omega) (by omega)) (fun c_16 => ?_) (fun h9 => absurd (by omega) h9)
      refine z_iload_n C dX1_totalPaid_36 1 rfl ?_
      exact z_iretP C dX1_totalPaid_37 (by rw [show i = 5 by omega]) rfl
    | succ k ih13 =>
      intro i hik
      refine z_iload C dX1_totalPaid_13 4 rfl ?_
      refine z_iload_n C dX1_totalPaid_15 3 rfl ?_
      refine z_icmp_ge C 36 dX1_totalPaid_16 (by decide) (zle_NN (by omega) (by omega)) (fun h9 => absurd h9 (by omega)) (fun c_16 => ?_)
      refine z_aload_n C dX1_totalPaid_19 2 rfl ?_
      refine z_iload C dX1_totalPaid_20 4 rfl ?_
      refine z_ialdN C (16 + z) (wB_pd (z := z) hz) (by omega) (by decide) dX1_totalPaid_22 (v := iZ (pd z i)) rfl ?_
      refine z_istore C dX1_totalPaid_23 (by decide) [(5, .int (iZ (pd z i))), (0, .ref (q (12 + z))), (1, .int (iZ (zSi (pd z) i))), (2, .ref (q (16 + z))), (3, .int (nI 5)), (4, .int (nI i))] rfl ?_
      refine z_iload_n C dX1_totalPaid_25 2 rfl ?_
      refine z_iload C dX1_totalPaid_26 0 rfl ?_
      refine z_iadd C dX1_totalPaid_28 (v := iZ ((zSi (pd z) i) + (pd z i))) (iZ_add (zSi (pd z) i) (pd z i)) ?_
      refine z_istore_n C dX1_totalPaid_29 (by decide) [(1, .int (iZ ((zSi (pd z) i) + (pd z i)))), (5, .int (iZ (pd z i))), (0, .ref (q (12 + z))), (2, .ref (q (16 + z))), (3, .int (nI 5)), (4, .int (nI i))] rfl ?_
      refine z_iinc C dX1_totalPaid_30 5 (nI (i + 1)) rfl (nI_add i 1) (by decide) [(4, .int (nI (i + 1))), (1, .int (iZ ((zSi (pd z) i) + (pd z i)))), (5, .int (iZ (pd z i))), (0, .ref (q (12 + z))), (2, .ref (q (16 + z))), (3, .int (nI 5))] rfl ?_
      refine z_goto C 13 dX1_totalPaid_33 (by decide) ?_
      refine zW.pick (lv' := [(0, .ref (q (12 + z))), (1, .int (iZ ((zSi (pd z) i) + (pd z i)))), (2, .ref (q (16 + z))), (3, .int (nI 5)), (4, .int (nI (i + 1)))]) [3, 1, 4, 5, 0] rfl ?_
      refine zW.lve (lv' := [(0, .ref (q (12 + z))), (1, .int (iZ (zSi (pd z) (i + 1)))), (2, .ref (q (16 + z))), (3, .int (nI 5)), (4, .int (nI (i + 1)))]) (rfl) ?_
      exact ih13 (i + 1) (by omega)
  exact hlp13 (5) 0 (by omega)
theorem inX2_totalProfit_X2 : ∀ w ∈ wsX20, w ∈ wsX2_totalProfit := fun w h => List.mem_cons_of_mem _ (List.mem_append_left _ (List.mem_append_right _ (h)))
set_option maxRecDepth 100000 in
set_option maxHeartbeats 4000000 in
theorem c_X2_totalProfit (l : Launch) (g : zG) (q : Nat → Nat) (a : zS) (bs : Nat → Int × Nat) (wb pd gw : Nat → Nat → Int) (ha : zOk a) (hw : ∀ d, d < 5 → wb 0 d = -1 ∨ ∃ c, c < zNb a ∧ wb 0 d = (c : Int)) : zM g l yX2_totalProfit wsX2_totalProfit { frames := 1, cells := 0, slots := 0, locals := 23 } [.ref (q 0)] (wB g q a (zG0 a) bs wb pd gw) (zPi (iZ (zSi (fun d => zPfv a (wb 0 d) (pd 0 d)) (zNd a))) (wB g q a (zG0 a) bs wb pd gw)) 0 0 := by
  refine zM.of (cc := cX2_totalProfit) (nL := 3) (ret := (some .int)) (lv := [(0, .ref (q 0))]) (by decide) rfl (Nat.le_of_ble_eq_true rfl) rfl ?_
  intro E C0 hi
  have C : zC g E cX2_totalProfit RX2 wsX2_totalProfit 3 (some .int) := C0
  obtain ⟨hnf, hnd, hnb, hou, hrs, hbd⟩ := id ha
  refine z_iconst C (nI 0) dX2_totalProfit_0 (by decide) ?_
  refine z_istore_n C dX2_totalProfit_1 (by decide) [(1, .int (nI 0)), (0, .ref (q 0))] rfl ?_
  refine z_iconst C (nI 0) dX2_totalProfit_2 (by decide) ?_
  refine z_istore_n C dX2_totalProfit_3 (by decide) [(2, .int (nI 0)), (1, .int (nI 0)), (0, .ref (q 0))] rfl ?_
  refine zW.pick (lv' := [(0, .ref (q 0)), (1, .int (nI 0)), (2, .int (nI 0))]) [2, 1, 0] rfl ?_
  have hlp4 : ∀ (k i : Nat), i + k = zNd a → zW g l ({ frames := 1, cells := 0, slots := 0, locals := 23 }) E (zMQ g E (zPi (iZ (zSi (fun d => zPfv a (wb 0 d) (pd 0 d)) (zNd a))) (wB g q a (zG0 a) bs wb pd gw)) 0 0) 3 0 0 (wB g q a (zG0 a) bs wb pd gw) [(0, .ref (q 0)), (1, .int (iZ (zSi (fun d => zPfv a (wb 0 d) (pd 0 d)) i))), (2, .int (nI i))] [] 4 := by
    intro k
    induction k with
    | zero =>
      intro i hik
      refine z_iload_n C dX2_totalProfit_4 2 rfl ?_
      refine z_aload_n C dX2_totalProfit_5 0 rfl ?_
      refine z_get C inX2_totalProfit_X2 0 wB_o rfl 3 (by decide) (C.w 1 rfl) rfl dX2_totalProfit_6 ?_
      refine z_icmp_ge C 30 dX2_totalProfit_9 (by decide) (zle_NN (by omega) (by omega)) (fun c_9 => ?_) (fun h9 => absurd (by omega) h9)
      refine z_iload_n C dX2_totalProfit_30 1 rfl ?_
      exact z_iretP C dX2_totalProfit_31 (by rw [show i = zNd a by omega]) rfl
    | succ k ih4 =>
      intro i hik
      refine z_iload_n C dX2_totalProfit_4 2 rfl ?_
      refine z_aload_n C dX2_totalProfit_5 0 rfl ?_
      refine z_get C inX2_totalProfit_X2 0 wB_o rfl 3 (by decide) (C.w 1 rfl) rfl dX2_totalProfit_6 ?_
      refine z_icmp_ge C 30 dX2_totalProfit_9 (by decide) (zle_NN (by omega) (by omega)) (fun h9 => absurd h9 (by omega)) (fun c_9 => ?_)
      refine z_iload_n C dX2_totalProfit_12 1 rfl ?_
      refine z_aload_n C dX2_totalProfit_13 0 rfl ?_
      refine z_aload_n C dX2_totalProfit_14 0 rfl ?_
      refine z_get C inX2_totalProfit_X2 0 wB_o rfl 11 (by decide) (C.w 2 rfl) rfl dX2_totalProfit_15 ?_
      refine z_iload_n C dX2_totalProfit_18 2 rfl ?_
      refine z_callV C (c_X2_profit l g q a bs wb pd gw 0 ha (by decide) i (by omega) (hw _ (by omega))) (cwV 2 C.ts gX2_totalProfit_X2_profit rfl rfl rfl (by decide +kernel) ⟨Nat.le_of_ble_eq_true rfl, Nat.le_of_ble_eq_true rfl⟩) wB_o rfl rfl rfl (Nat.le_of_ble_eq_true rfl) dX2_totalProfit_19 ⟨Nat.zero_le _, Nat.zero_le _⟩ (z_i ?_)
      refine z_iadd C dX2_totalProfit_22 (v := iZ ((zSi (fun d => zPfv a (wb 0 d) (pd 0 d)) i) + (zPfv a (wb 0 i) (pd 0 i)))) (iZ_add (zSi (fun d => zPfv a (wb 0 d) (pd 0 d)) i) (zPfv a (wb 0 i) (pd 0 i))) ?_
      refine z_istore_n C dX2_totalProfit_23 (by decide) [(1, .int (iZ ((zSi (fun d => zPfv a (wb 0 d) (pd 0 d)) i) + (zPfv a (wb 0 i) (pd 0 i))))), (0, .ref (q 0)), (2, .int (nI i))] rfl ?_
      refine z_iinc C dX2_totalProfit_24 2 (nI (i + 1)) rfl (nI_add i 1) (by decide) [(2, .int (nI (i + 1))), (1, .int (iZ ((zSi (fun d => zPfv a (wb 0 d) (pd 0 d)) i) + (zPfv a (wb 0 i) (pd 0 i))))), (0, .ref (q 0))] rfl ?_
      refine z_goto C 4 dX2_totalProfit_27 (by decide) ?_
      refine zW.pick (lv' := [(0, .ref (q 0)), (1, .int (iZ ((zSi (fun d => zPfv a (wb 0 d) (pd 0 d)) i) + (zPfv a (wb 0 i) (pd 0 i))))), (2, .int (nI (i + 1)))]) [2, 1, 0] rfl ?_
      refine zW.lve (lv' := [(0, .ref (q 0)), (1, .int (iZ (zSi (fun d => zPfv a (wb 0 d) (pd 0 d)) (i + 1)))), (2, .int (nI (i + 1)))]) (rfl) ?_
      exact ih4 (i + 1) (by omega)
  exact hlp4 (zNd a) 0 (by omega)
theorem inX2_winningPrices_X1 : ∀ w ∈ wsX10, w ∈ wsX2_winningPrices := fun w h => List.mem_cons_of_mem _ (List.mem_append_left _ (List.mem_append_right _ (h)))
theorem inX2_winningPrices_X2 : ∀ w ∈ wsX20, w ∈ wsX2_winningPrices := fun w h => List.mem_cons_of_mem _ (List.mem_append_left _ (List.mem_append_left _ (List.mem_append_right _ (h))))
set_option maxRecDepth 100000 in
set_option maxHeartbeats 4000000 in
theorem c_X2_winningPrices (l : Launch) (g : zG) (q : Nat → Nat) (a : zS) (bs : Nat → Int × Nat) (wb pd gw : Nat → Nat → Int) (ha : zOk a) : zM g l yX2_winningPrices wsX2_winningPrices { frames := 1, cells := 0, slots := 0, locals := 21 } [.ref (q 0)] (wB g q a (zG0 a) bs wb pd gw) (zPi (nI (zSum (fun b => if (bs 0).2.testBit b = true then zPr a b else 0) (zNb a))) (wB g q a (zG0 a) bs wb pd gw)) 0 0 := by
  refine zM.of (cc := cX2_winningPrices) (nL := 3) (ret := (some .int)) (lv := [(0, .ref (q 0))]) (by decide) rfl (Nat.le_of_ble_eq_true rfl) rfl ?_
  intro E C0 hi
  have C : zC g E cX2_winningPrices RX2 wsX2_winningPrices 3 (some .int) := C0
  obtain ⟨hnf, hnd, hnb, hou, hrs, hbd⟩ := id ha
  refine z_iconst C (nI 0) dX2_winningPrices_0 (by decide) ?_
  refine z_istore_n C dX2_winningPrices_1 (by decide) [(1, .int (nI 0)), (0, .ref (q 0))] rfl ?_
  refine z_iconst C (nI 0) dX2_winningPrices_2 (by decide) ?_
  refine z_istore_n C dX2_winningPrices_3 (by decide) [(2, .int (nI 0)), (1, .int (nI 0)), (0, .ref (q 0))] rfl ?_
  refine zW.pick (lv' := [(0, .ref (q 0)), (1, .int (nI 0)), (2, .int (nI 0))]) [2, 1, 0] rfl ?_
  have hlp4 : ∀ (k i : Nat), i + k = zNb a → zW g l ({ frames := 1, cells := 0, slots := 0, locals := 21 }) E (zMQ g E (zPi (nI (zSum (fun b => if (bs 0).2.testBit b = true then zPr a b else 0) (zNb a))) (wB g q a (zG0 a) bs wb pd gw)) 0 0) 3 0 0 (wB g q a (zG0 a) bs wb pd gw) [(0, .ref (q 0)), (1, .int (nI (zSum (fun b => if (bs 0).2.testBit b = true then zPr a b else 0) i))), (2, .int (nI i))] [] 4 := by
    intro k
    induction k with
    | zero =>
      intro i hik
      refine z_iload_n C dX2_winningPrices_4 2 rfl ?_
      refine z_aload_n C dX2_winningPrices_5 0 rfl ?_
      refine z_get C inX2_winningPrices_X2 0 wB_o rfl 10 (by decide) (C.w 1 rfl) rfl dX2_winningPrices_6 ?_
      refine z_icmp_ge C 41 dX2_winningPrices_9 (by decide) (zle_NN (by omega) (by omega)) (fun c_9 => ?_) (fun h9 => absurd (by omega) h9)
      refine z_iload_n C dX2_winningPrices_41 1 rfl ?_
      exact z_iretP C dX2_winningPrices_42 (by rw [show i = zNb a by omega]) rfl
    | succ k ih4 =>
      intro i hik
      refine z_iload_n C dX2_winningPrices_4 2 rfl ?_
      refine z_aload_n C dX2_winningPrices_5 0 rfl ?_
      refine z_get C inX2_winningPrices_X2 0 wB_o rfl 10 (by decide) (C.w 1 rfl) rfl dX2_winningPrices_6 ?_
      refine z_icmp_ge C 41 dX2_winningPrices_9 (by decide) (zle_NN (by omega) (by omega)) (fun h9 => absurd h9 (by omega)) (fun c_9 => ?_)
      refine z_aload_n C dX2_winningPrices_12 0 rfl ?_
      refine z_get C inX2_winningPrices_X2 0 wB_o rfl 11 (by decide) (C.w 2 rfl) rfl dX2_winningPrices_13 ?_
      refine z_getN C inX2_winningPrices_X1 (12 + 0) (wB_sl (z := 0) (by decide)) rfl 0 (by decide) 2 rfl rfl dX2_winningPrices_16 ?_
      refine z_iload_n C dX2_winningPrices_19 2 rfl ?_
      refine z_callVN C (c_X0_has l g q a bs wb pd gw 0 (by decide) i (by omega)) ⟨va_cnB 1 C.ts ggX2_winningPrices_X0_has rfl rfl rfl (C.K.2.1 _ (List.mem_of_getElem? (i := 13) rfl)) (C.w 5 rfl) (by decide +kernel) ⟨Nat.le_of_ble_eq_true rfl, Nat.le_of_ble_eq_true rfl⟩, (C.w 4 rfl), (C.w 6 rfl)⟩ (wB_bs (z := 0) (by decide)) rfl rfl rfl (Nat.le_of_ble_eq_true rfl) dX2_winningPrices_20 ⟨Nat.zero_le _, Nat.zero_le _⟩ (z_i ?_)
      refine z_if_eq C 35 dX2_winningPrices_23 (by decide) (zeq_B0 _) (fun c_23 => ?_) (fun c_23 => ?_)
      · skip
        refine z_iinc C dX2_winningPrices_35 2 (nI (i + 1)) rfl (nI_add i 1) (by decide) [(2, .int (nI (i + 1))), (0, .ref (q 0)), (1, .int (nI (zSum (fun b => if (bs 0).2.testBit b = true then zPr a b else 0) i)))] rfl ?_
        refine z_goto C 4 dX2_winningPrices_38 (by decide) ?_
        refine zW.pick (lv' := [(0, .ref (q 0)), (1, .int (nI (zSum (fun b => if (bs 0).2.testBit b = true then zPr a b else 0) i))), (2, .int (nI (i + 1)))]) [1, 2, 0] rfl ?_
        refine zW.lve (lv' := [(0, .ref (q 0)), (1, .int (nI (zSum (fun b => if (bs 0).2.testBit b = true then zPr a b else 0) (i + 1)))), (2, .int (nI (i + 1)))]) (by simp [zSum, c_23]) ?_
        exact ih4 (i + 1) (by omega)
      · skip
        refine z_iload_n C dX2_winningPrices_26 1 rfl ?_
        refine z_aload_n C dX2_winningPrices_27 0 rfl ?_
        refine z_get C inX2_winningPrices_X2 0 wB_o rfl 6 (by decide) (C.w 3 rfl) rfl dX2_winningPrices_28 ?_
        refine z_iload_n C dX2_winningPrices_31 2 rfl ?_
        refine z_ialdN C 5 wB_pr (by omega) (by decide) dX2_winningPrices_32 (v := nI (zPr a i)) rfl ?_
        have f_32b := (ha.pr (b := i) (by omega))
        refine z_iadd C dX2_winningPrices_33 (v := nI ((zSum (fun b => if (bs 0).2.testBit b = true then zPr a b else 0) i) + (zPr a i))) (nI_add (zSum (fun b => if (bs 0).2.testBit b = true then zPr a b else 0) i) (zPr a i)) ?_
        refine z_istore_n C dX2_winningPrices_34 (by decide) [(1, .int (nI ((zSum (fun b => if (bs 0).2.testBit b = true then zPr a b else 0) i) + (zPr a i)))), (0, .ref (q 0)), (2, .int (nI i))] rfl ?_
        refine z_iinc C dX2_winningPrices_35 2 (nI (i + 1)) rfl (nI_add i 1) (by decide) [(2, .int (nI (i + 1))), (1, .int (nI ((zSum (fun b => if (bs 0).2.testBit b = true then zPr a b else 0) i) + (zPr a i)))), (0, .ref (q 0))] rfl ?_
        refine z_goto C 4 dX2_winningPrices_38 (by decide) ?_
        refine zW.pick (lv' := [(0, .ref (q 0)), (1, .int (nI ((zSum (fun b => if (bs 0).2.testBit b = true then zPr a b else 0) i) + (zPr a i)))), (2, .int (nI (i + 1)))]) [2, 1, 0] rfl ?_
        refine zW.lve (lv' := [(0, .ref (q 0)), (1, .int (nI (zSum (fun b => if (bs 0).2.testBit b = true then zPr a b else 0) (i + 1)))), (2, .int (nI (i + 1)))]) (by simp [zSum, c_23]) ?_
        exact ih4 (i + 1) (by omega)
  exact hlp4 (zNb a) 0 (by omega)
theorem inX2_soldFields_X1 : ∀ w ∈ wsX10, w ∈ wsX2_soldFields := fun w h => List.mem_cons_of_mem _ (List.mem_append_left _ (List.mem_append_right _ (h)))
theorem inX2_soldFields_X2 : ∀ w ∈ wsX20, w ∈ wsX2_soldFields := fun w h => List.mem_cons_of_mem _ (List.mem_append_left _ (List.mem_append_left _ (List.mem_append_right _ (h))))
set_option maxRecDepth 100000 in
set_option maxHeartbeats 4000000 in
theorem c_X2_soldFields (l : Launch) (g : zG) (q : Nat → Nat) (a : zS) (bs : Nat → Int × Nat) (wb pd gw : Nat → Nat → Int) (ha : zOk a) : zM g l yX2_soldFields wsX2_soldFields { frames := 1, cells := 0, slots := 0, locals := 21 } [.ref (q 0)] (wB g q a (zG0 a) bs wb pd gw) (zPi (nI (zOrs (fun b => if (bs 0).2.testBit b = true then zBu a b else 0) (zNb a))) (wB g q a (zG0 a) bs wb pd gw)) 0 0 := by
  refine zM.of (cc := cX2_soldFields) (nL := 3) (ret := (some .int)) (lv := [(0, .ref (q 0))]) (by decide) rfl (Nat.le_of_ble_eq_true rfl) rfl ?_
  intro E C0 hi
  have C : zC g E cX2_soldFields RX2 wsX2_soldFields 3 (some .int) := C0
  obtain ⟨hnf, hnd, hnb, hou, hrs, hbd⟩ := id ha
  refine z_iconst C (nI 0) dX2_soldFields_0 (by decide) ?_
  refine z_istore_n C dX2_soldFields_1 (by decide) [(1, .int (nI 0)), (0, .ref (q 0))] rfl ?_
  refine z_iconst C (nI 0) dX2_soldFields_2 (by decide) ?_
  refine z_istore_n C dX2_soldFields_3 (by decide) [(2, .int (nI 0)), (1, .int (nI 0)), (0, .ref (q 0))] rfl ?_
  refine zW.pick (lv' := [(0, .ref (q 0)), (1, .int (nI 0)), (2, .int (nI 0))]) [2, 1, 0] rfl ?_
  have hlp4 : ∀ (k i : Nat), i + k = zNb a → zW g l ({ frames := 1, cells := 0, slots := 0, locals := 21 }) E (zMQ g E (zPi (nI (zOrs (fun b => if (bs 0).2.testBit b = true then zBu a b else 0) (zNb a))) (wB g q a (zG0 a) bs wb pd gw)) 0 0) 3 0 0 (wB g q a (zG0 a) bs wb pd gw) [(0, .ref (q 0)), (1, .int (nI (zOrs (fun b => if (bs 0).2.testBit b = true then zBu a b else 0) i))), (2, .int (nI i))] [] 4 := by
    intro k
    induction k with
    | zero =>
      intro i hik
      refine z_iload_n C dX2_soldFields_4 2 rfl ?_
      refine z_aload_n C dX2_soldFields_5 0 rfl ?_
      refine z_get C inX2_soldFields_X2 0 wB_o rfl 10 (by decide) (C.w 1 rfl) rfl dX2_soldFields_6 ?_
      refine z_icmp_ge C 41 dX2_soldFields_9 (by decide) (zle_NN (by omega) (by omega)) (fun c_9 => ?_) (fun h9 => absurd (by omega) h9)
      refine z_iload_n C dX2_soldFields_41 1 rfl ?_
      exact z_iretP C dX2_soldFields_42 (by rw [show i = zNb a by omega]) rfl
    | succ k ih4 =>
      intro i hik
      refine z_iload_n C dX2_soldFields_4 2 rfl ?_
      refine z_aload_n C dX2_soldFields_5 0 rfl ?_
      refine z_get C inX2_soldFields_X2 0 wB_o rfl 10 (by decide) (C.w 1 rfl) rfl dX2_soldFields_6 ?_
      refine z_icmp_ge C 41 dX2_soldFields_9 (by decide) (zle_NN (by omega) (by omega)) (fun h9 => absurd h9 (by omega)) (fun c_9 => ?_)
      refine z_aload_n C dX2_soldFields_12 0 rfl ?_
      refine z_get C inX2_soldFields_X2 0 wB_o rfl 11 (by decide) (C.w 2 rfl) rfl dX2_soldFields_13 ?_
      refine z_getN C inX2_soldFields_X1 (12 + 0) (wB_sl (z := 0) (by decide)) rfl 0 (by decide) 2 rfl rfl dX2_soldFields_16 ?_
      refine z_iload_n C dX2_soldFields_19 2 rfl ?_
      refine z_callVN C (c_X0_has l g q a bs wb pd gw 0 (by decide) i (by omega)) ⟨va_cnB 1 C.ts ggX2_soldFields_X0_has rfl rfl rfl (C.K.2.1 _ (List.mem_of_getElem? (i := 13) rfl)) (C.w 5 rfl) (by decide +kernel) ⟨Nat.le_of_ble_eq_true rfl, Nat.le_of_ble_eq_true rfl⟩, (C.w 4 rfl), (C.w 6 rfl)⟩ (wB_bs (z := 0) (by decide)) rfl rfl rfl (Nat.le_of_ble_eq_true rfl) dX2_soldFields_20 ⟨Nat.zero_le _, Nat.zero_le _⟩ (z_i ?_)
      refine z_if_eq C 35 dX2_soldFields_23 (by decide) (zeq_B0 _) (fun c_23 => ?_) (fun c_23 => ?_)
      · skip
        refine z_iinc C dX2_soldFields_35 2 (nI (i + 1)) rfl (nI_add i 1) (by decide) [(2, .int (nI (i + 1))), (0, .ref (q 0)), (1, .int (nI (zOrs (fun b => if (bs 0).2.testBit b = true then zBu a b else 0) i)))] rfl ?_
        refine z_goto C 4 dX2_soldFields_38 (by decide) ?_
        refine zW.pick (lv' := [(0, .ref (q 0)), (1, .int (nI (zOrs (fun b => if (bs 0).2.testBit b = true then zBu a b else 0) i))), (2, .int (nI (i + 1)))]) [1, 2, 0] rfl ?_
        refine zW.lve (lv' := [(0, .ref (q 0)), (1, .int (nI (zOrs (fun b => if (bs 0).2.testBit b = true then zBu a b else 0) (i + 1)))), (2, .int (nI (i + 1)))]) (by simp [zOrs, c_23]) ?_
        exact ih4 (i + 1) (by omega)
      · skip
        refine z_iload_n C dX2_soldFields_26 1 rfl ?_
        refine z_aload_n C dX2_soldFields_27 0 rfl ?_
        refine z_get C inX2_soldFields_X2 0 wB_o rfl 5 (by decide) (C.w 3 rfl) rfl dX2_soldFields_28 ?_
        refine z_iload_n C dX2_soldFields_31 2 rfl ?_
        refine z_ialdN C 4 wB_bu (by omega) (by decide) dX2_soldFields_32 (v := nI (zBu a i)) rfl ?_
        have f_32b := (ha.bu8 (b := i) (by omega))
        refine z_ior C dX2_soldFields_33 (v := nI ((zOrs (fun b => if (bs 0).2.testBit b = true then zBu a b else 0) i) ||| (zBu a i))) (zor_NN (zOrs (fun b => if (bs 0).2.testBit b = true then zBu a b else 0) i) (zBu a i)) ?_
        refine z_istore_n C dX2_soldFields_34 (by decide) [(1, .int (nI ((zOrs (fun b => if (bs 0).2.testBit b = true then zBu a b else 0) i) ||| (zBu a i)))), (0, .ref (q 0)), (2, .int (nI i))] rfl ?_
        refine z_iinc C dX2_soldFields_35 2 (nI (i + 1)) rfl (nI_add i 1) (by decide) [(2, .int (nI (i + 1))), (1, .int (nI ((zOrs (fun b => if (bs 0).2.testBit b = true then zBu a b else 0) i) ||| (zBu a i)))), (0, .ref (q 0))] rfl ?_
        refine z_goto C 4 dX2_soldFields_38 (by decide) ?_
        refine zW.pick (lv' := [(0, .ref (q 0)), (1, .int (nI ((zOrs (fun b => if (bs 0).2.testBit b = true then zBu a b else 0) i) ||| (zBu a i)))), (2, .int (nI (i + 1)))]) [2, 1, 0] rfl ?_
        refine zW.lve (lv' := [(0, .ref (q 0)), (1, .int (nI (zOrs (fun b => if (bs 0).2.testBit b = true then zBu a b else 0) (i + 1)))), (2, .int (nI (i + 1)))]) (by simp [zOrs, c_23]) ?_
        exact ih4 (i + 1) (by omega)
  exact hlp4 (zNb a) 0 (by omega)
theorem inX2_winnerOfField_X1 : ∀ w ∈ wsX10, w ∈ wsX2_winnerOfField := fun w h => List.mem_cons_of_mem _ (List.mem_append_left _ (List.mem_append_right _ (h)))
theorem inX2_winnerOfField_X2 : ∀ w ∈ wsX20, w ∈ wsX2_winnerOfField := fun w h => List.mem_cons_of_mem _ (List.mem_append_left _ (List.mem_append_left _ (List.mem_append_right _ (h))))
set_option maxRecDepth 100000 in
set_option maxHeartbeats 4000000 in
theorem c_X2_winnerOfField (l : Launch) (g : zG) (q : Nat → Nat) (a : zS) (bs : Nat → Int × Nat) (wb pd gw : Nat → Nat → Int) (ha : zOk a) (f : Nat) (hf : f < 8) : zM g l yX2_winnerOfField wsX2_winnerOfField { frames := 1, cells := 0, slots := 0, locals := 21 } [.ref (q 0), .int (nI f)] (wB g q a (zG0 a) bs wb pd gw) (zPi (iZ (zFst (fun b => (bs 0).2.testBit b && (zBu a b).testBit f) 0 (zNb a))) (wB g q a (zG0 a) bs wb pd gw)) 0 0 := by
  refine zM.of (cc := cX2_winnerOfField) (nL := 3) (ret := (some .int)) (lv := [(0, .ref (q 0)), (1, .int (nI f))]) (by decide) rfl (Nat.le_of_ble_eq_true rfl) rfl ?_
  intro E C0 hi
  have C : zC g E cX2_winnerOfField RX2 wsX2_winnerOfField 3 (some .int) := C0
  obtain ⟨hnf, hnd, hnb, hou, hrs, hbd⟩ := id ha
  refine z_iconst C (nI 0) dX2_winnerOfField_0 (by decide) ?_
  refine z_istore_n C dX2_winnerOfField_1 (by decide) [(2, .int (nI 0)), (0, .ref (q 0)), (1, .int (nI f))] rfl ?_
  refine zW.pick (lv' := [(0, .ref (q 0)), (1, .int (nI f)), (2, .int (nI 0))]) [1, 2, 0] rfl ?_
  have hlp2 : ∀ (k i : Nat), i + k = zNb a → (zFst (fun b => (bs 0).2.testBit b && (zBu a b).testBit f) i k = zFst (fun b => (bs 0).2.testBit b && (zBu a b).testBit f) 0 (zNb a)) → zW g l ({ frames := 1, cells := 0, slots := 0, locals := 21 }) E (zMQ g E (zPi (iZ (zFst (fun b => (bs 0).2.testBit b && (zBu a b).testBit f) 0 (zNb a))) (wB g q a (zG0 a) bs wb pd gw)) 0 0) 3 0 0 (wB g q a (zG0 a) bs wb pd gw) [(0, .ref (q 0)), (1, .int (nI f)), (2, .int (nI i))] [] 2 := by
    intro k
    induction k with
    | zero =>
      intro i hik hr
      refine z_iload_n C dX2_winnerOfField_2 2 rfl ?_
      refine z_aload_n C dX2_winnerOfField_3 0 rfl ?_
      refine z_get C inX2_winnerOfField_X2 0 wB_o rfl 10 (by decide) (C.w 1 rfl) rfl dX2_winnerOfField_4 ?_
      refine z_icmp_ge C 45 dX2_winnerOfField_7 (by decide) (zle_NN (by omega) (by omega)) (fun c_7 => ?_) (fun h9 => absurd (by omega) h9)
      refine z_iconst C (iZ (-1)) dX2_winnerOfField_45 (by decide) ?_
      exact z_iretP C dX2_winnerOfField_46 (by rw [← hr]; rfl) rfl
    | succ k ih2 =>
      intro i hik hr
      refine z_iload_n C dX2_winnerOfField_2 2 rfl ?_
      refine z_aload_n C dX2_winnerOfField_3 0 rfl ?_
      refine z_get C inX2_winnerOfField_X2 0 wB_o rfl 10 (by decide) (C.w 1 rfl) rfl dX2_winnerOfField_4 ?_
      refine z_icmp_ge C 45 dX2_winnerOfField_7 (by decide) (zle_NN (by omega) (by omega)) (fun h9 => absurd h9 (by omega)) (fun c_7 => ?_)
      refine z_aload_n C dX2_winnerOfField_10 0 rfl ?_
      refine z_get C inX2_winnerOfField_X2 0 wB_o rfl 11 (by decide) (C.w 2 rfl) rfl dX2_winnerOfField_11 ?_
      refine z_getN C inX2_winnerOfField_X1 (12 + 0) (wB_sl (z := 0) (by decide)) rfl 0 (by decide) 2 rfl rfl dX2_winnerOfField_14 ?_
      refine z_iload_n C dX2_winnerOfField_17 2 rfl ?_
      refine z_callVN C (c_X0_has l g q a bs wb pd gw 0 (by decide) i (by omega)) ⟨va_cnB 1 C.ts ggX2_winnerOfField_X0_has rfl rfl rfl (C.K.2.1 _ (List.mem_of_getElem? (i := 13) rfl)) (C.w 5 rfl) (by decide +kernel) ⟨Nat.le_of_ble_eq_true rfl, Nat.le_of_ble_eq_true rfl⟩, (C.w 4 rfl), (C.w 6 rfl)⟩ (wB_bs (z := 0) (by decide)) rfl rfl rfl (Nat.le_of_ble_eq_true rfl) dX2_winnerOfField_18 ⟨Nat.zero_le _, Nat.zero_le _⟩ (z_i ?_)
      refine z_if_eq C 39 dX2_winnerOfField_21 (by decide) (zeq_B0 _) (fun c_21 => ?_) (fun c_21 => ?_)
      · skip
        refine z_iinc C dX2_winnerOfField_39 2 (nI (i + 1)) rfl (nI_add i 1) (by decide) [(2, .int (nI (i + 1))), (0, .ref (q 0)), (1, .int (nI f))] rfl ?_
        refine z_goto C 2 dX2_winnerOfField_42 (by decide) ?_
        refine zW.pick (lv' := [(0, .ref (q 0)), (1, .int (nI f)), (2, .int (nI (i + 1)))]) [1, 2, 0] rfl ?_
        exact ih2 (i + 1) (by omega) (by rw [← hr]; simp_all [zFst])
      · skip
        refine z_aload_n C dX2_winnerOfField_24 0 rfl ?_
        refine z_get C inX2_winnerOfField_X2 0 wB_o rfl 5 (by decide) (C.w 3 rfl) rfl dX2_winnerOfField_25 ?_
        refine z_iload_n C dX2_winnerOfField_28 2 rfl ?_
        refine z_ialdN C 4 wB_bu (by omega) (by decide) dX2_winnerOfField_29 (v := nI (zBu a i)) rfl ?_
        have f_29b := (ha.bu8 (b := i) (by omega))
        refine z_iload_n C dX2_winnerOfField_30 1 rfl ?_
        refine z_callS C (c_X2_hasField l g (wB g q a (zG0 a) bs wb pd gw) (zBu a i) f (by omega)) (va_cwS 2 C.ts gX2_winnerOfField_X2_hasField rfl rfl rfl (by decide +kernel) ⟨Nat.le_of_ble_eq_true rfl, Nat.le_of_ble_eq_true rfl⟩) rfl rfl (Nat.le_of_ble_eq_true rfl) dX2_winnerOfField_31 ⟨Nat.zero_le _, Nat.zero_le _⟩ (z_i ?_)
        refine z_if_eq C 39 dX2_winnerOfField_34 (by decide) (zeq_B0 _) (fun c_34 => ?_) (fun c_34 => ?_)
        · skip
          refine z_iinc C dX2_winnerOfField_39 2 (nI (i + 1)) rfl (nI_add i 1) (by decide) [(2, .int (nI (i + 1))), (0, .ref (q 0)), (1, .int (nI f))] rfl ?_
          refine z_goto C 2 dX2_winnerOfField_42 (by decide) ?_
          refine zW.pick (lv' := [(0, .ref (q 0)), (1, .int (nI f)), (2, .int (nI (i + 1)))]) [1, 2, 0] rfl ?_
          exact ih2 (i + 1) (by omega) (by rw [← hr]; simp_all [zFst])
        · skip
          refine z_iload_n C dX2_winnerOfField_37 2 rfl ?_
          exact z_iretP C dX2_winnerOfField_38 (by rw [← hr]; simp [zFst, c_21, c_34]; rfl) rfl
  exact hlp2 (zNb a) 0 (by omega) rfl
theorem inX2_highestAlone_X2 : ∀ w ∈ wsX20, w ∈ wsX2_highestAlone := fun w h => List.mem_cons_of_mem _ (List.mem_append_right _ (h))
set_option maxRecDepth 100000 in
set_option maxHeartbeats 4000000 in
theorem c_X2_highestAlone (l : Launch) (g : zG) (q : Nat → Nat) (a : zS) (bs : Nat → Int × Nat) (wb pd gw : Nat → Nat → Int) (ha : zOk a) (f : Nat) (hf : f < 8) (lo : Int) (hlo : -1 ≤ lo ∧ lo < 5) : zM g l yX2_highestAlone wsX2_highestAlone { frames := 1, cells := 0, slots := 0, locals := 21 } [.ref (q 0), .int (nI f), .int (iZ lo)] (wB g q a (zG0 a) bs wb pd gw) (zPi (iZ (zHi a (zCo a f lo) (zNb a))) (wB g q a (zG0 a) bs wb pd gw)) 0 0 := by
  refine zM.of (cc := cX2_highestAlone) (nL := 6) (ret := (some .int)) (lv := [(0, .ref (q 0)), (1, .int (nI f)), (2, .int (iZ lo))]) (by decide) rfl (Nat.le_of_ble_eq_true rfl) rfl ?_
  intro E C0 hi
  have C : zC g E cX2_highestAlone RX2 wsX2_highestAlone 6 (some .int) := C0
  obtain ⟨hnf, hnd, hnb, hou, hrs, hbd⟩ := id ha
  have p8 : 2 ^ f ≤ 2 ^ 8 := zp2_le (by omega)
  refine z_iconst C (iZ (-1)) dX2_highestAlone_0 (by decide) ?_
  refine z_istore_n C dX2_highestAlone_1 (by decide) [(3, .int (iZ (-1))), (0, .ref (q 0)), (1, .int (nI f)), (2, .int (iZ lo))] rfl ?_
  refine z_iconst C (nI 0) dX2_highestAlone_2 (by decide) ?_
  refine z_istore C dX2_highestAlone_3 (by decide) [(4, .int (nI 0)), (3, .int (iZ (-1))), (0, .ref (q 0)), (1, .int (nI f)), (2, .int (iZ lo))] rfl ?_
  refine zW.pick (lv' := [(0, .ref (q 0)), (1, .int (nI f)), (2, .int (iZ lo)), (3, .int (iZ (-1))), (4, .int (nI 0))]) [2, 3, 4, 1, 0] rfl ?_
  have hlp5 : ∀ (k i : Nat), i + k = zNb a → zW g l ({ frames := 1, cells := 0, slots := 0, locals := 21 }) E (zMQ g E (zPi (iZ (zHi a (zCo a f lo) (zNb a))) (wB g q a (zG0 a) bs wb pd gw)) 0 0) 6 0 0 (wB g q a (zG0 a) bs wb pd gw) [(0, .ref (q 0)), (1, .int (nI f)), (2, .int (iZ lo)), (3, .int (iZ (zHi a (zCo a f lo) i))), (4, .int (nI i))] [] 5 := by
    intro k
    induction k with
    | zero =>
      intro i hik
      refine z_iload C dX2_highestAlone_5 4 rfl ?_
      refine z_aload_n C dX2_highestAlone_7 0 rfl ?_
      refine z_get C inX2_highestAlone_X2 0 wB_o rfl 10 (by decide) (C.w 1 rfl) rfl dX2_highestAlone_8 ?_
      refine z_icmp_ge C 89 dX2_highestAlone_11 (by decide) (zle_NN (by omega) (by omega)) (fun c_11 => ?_) (fun h9 => absurd (by omega) h9)
      refine z_iload_n C dX2_highestAlone_89 3 rfl ?_
      exact z_iretP C dX2_highestAlone_90 (by rw [show i = zNb a by omega]) rfl
    | succ k ih5 =>
      intro i hik
      have hH : -1 ≤ zHi a (zCo a f lo) i ∧ zHi a (zCo a f lo) i < 12 := by rcases zHi_or a (zCo a f lo) i with h | ⟨c, h1, h2, -⟩ <;> omega
      refine z_iload C dX2_highestAlone_5 4 rfl ?_
      refine z_aload_n C dX2_highestAlone_7 0 rfl ?_
      refine z_get C inX2_highestAlone_X2 0 wB_o rfl 10 (by decide) (C.w 1 rfl) rfl dX2_highestAlone_8 ?_
      refine z_icmp_ge C 89 dX2_highestAlone_11 (by decide) (zle_NN (by omega) (by omega)) (fun h9 => absurd h9 (by omega)) (fun c_11 => ?_)
      refine z_aload_n C dX2_highestAlone_14 0 rfl ?_
      refine z_iload C dX2_highestAlone_15 4 rfl ?_
      refine z_callV C (c_X2_counts l g q a bs wb pd gw ha i (by omega)) (cwV 1 C.ts gX2_highestAlone_X2_counts rfl rfl rfl (by decide +kernel) ⟨Nat.le_of_ble_eq_true rfl, Nat.le_of_ble_eq_true rfl⟩) wB_o rfl rfl rfl (Nat.le_of_ble_eq_true rfl) dX2_highestAlone_17 ⟨Nat.zero_le _, Nat.zero_le _⟩ (z_i ?_)
      refine z_if_eq C 51 dX2_highestAlone_20 (by decide) (zeq_B0 _) (fun c_20 => ?_) (fun c_20 => ?_)
      · skip
        refine z_iconst C (nI 0) dX2_highestAlone_51 (by decide) ?_
        refine z_istore C dX2_highestAlone_52 (by decide) [(5, .int (nI 0)), (0, .ref (q 0)), (1, .int (nI f)), (2, .int (iZ lo)), (3, .int (iZ (zHi a (zCo a f lo) i))), (4, .int (nI i))] rfl ?_
        refine z_iload C dX2_highestAlone_54 0 rfl ?_
        refine z_if_eq C 83 dX2_highestAlone_56 (by decide) (zeq_N0 (by omega)) (fun c_56 => ?_) (fun h9 => absurd (by decide) h9)
        refine z_iinc C dX2_highestAlone_83 5 (nI (i + 1)) rfl (nI_add i 1) (by decide) [(4, .int (nI (i + 1))), (5, .int (nI 0)), (0, .ref (q 0)), (1, .int (nI f)), (2, .int (iZ lo)), (3, .int (iZ (zHi a (zCo a f lo) i)))] rfl ?_
        refine z_goto C 5 dX2_highestAlone_86 (by decide) ?_
        refine zW.pick (lv' := [(0, .ref (q 0)), (1, .int (nI f)), (2, .int (iZ lo)), (3, .int (iZ (zHi a (zCo a f lo) i))), (4, .int (nI (i + 1)))]) [2, 3, 4, 5, 0] rfl ?_
        refine zW.lve (lv' := [(0, .ref (q 0)), (1, .int (nI f)), (2, .int (iZ lo)), (3, .int (iZ (zHi a (zCo a f lo) (i + 1)))), (4, .int (nI (i + 1)))]) (by first | (simp_all [zHi, zCo, iZ_n]; done) | (simp_all [zHi, zCo, iZ_n]; rw [if_neg (by omega)]; rfl)) ?_
        exact ih5 (i + 1) (by omega)
      · skip
        refine z_aload_n C dX2_highestAlone_23 0 rfl ?_
        refine z_get C inX2_highestAlone_X2 0 wB_o rfl 5 (by decide) (C.w 2 rfl) rfl dX2_highestAlone_24 ?_
        refine z_iload C dX2_highestAlone_27 4 rfl ?_
        refine z_ialdN C 4 wB_bu (by omega) (by decide) dX2_highestAlone_29 (v := nI (zBu a i)) rfl ?_
        have f_29b := (ha.bu8 (b := i) (by omega))
        refine z_iconst C (nI 1) dX2_highestAlone_30 (by decide) ?_
        refine z_iload_n C dX2_highestAlone_31 1 rfl ?_
        refine z_ishl C dX2_highestAlone_32 (v := nI (2 ^ f)) (zshl_1N (by omega)) ?_
        refine z_icmp_ne C 51 dX2_highestAlone_33 (by decide) (zeq_NN (by omega) (by omega)) (fun c_33 => ?_) (fun c_33 => ?_)
        · skip
          refine z_iconst C (nI 0) dX2_highestAlone_51 (by decide) ?_
          refine z_istore C dX2_highestAlone_52 (by decide) [(5, .int (nI 0)), (0, .ref (q 0)), (1, .int (nI f)), (2, .int (iZ lo)), (3, .int (iZ (zHi a (zCo a f lo) i))), (4, .int (nI i))] rfl ?_
          refine z_iload C dX2_highestAlone_54 0 rfl ?_
          refine z_if_eq C 83 dX2_highestAlone_56 (by decide) (zeq_N0 (by omega)) (fun c_56 => ?_) (fun h9 => absurd (by decide) h9)
          refine z_iinc C dX2_highestAlone_83 5 (nI (i + 1)) rfl (nI_add i 1) (by decide) [(4, .int (nI (i + 1))), (5, .int (nI 0)), (0, .ref (q 0)), (1, .int (nI f)), (2, .int (iZ lo)), (3, .int (iZ (zHi a (zCo a f lo) i)))] rfl ?_
          refine z_goto C 5 dX2_highestAlone_86 (by decide) ?_
          refine zW.pick (lv' := [(0, .ref (q 0)), (1, .int (nI f)), (2, .int (iZ lo)), (3, .int (iZ (zHi a (zCo a f lo) i))), (4, .int (nI (i + 1)))]) [2, 3, 4, 5, 0] rfl ?_
          refine zW.lve (lv' := [(0, .ref (q 0)), (1, .int (nI f)), (2, .int (iZ lo)), (3, .int (iZ (zHi a (zCo a f lo) (i + 1)))), (4, .int (nI (i + 1)))]) (by first | (simp_all [zHi, zCo, iZ_n]; done) | (simp_all [zHi, zCo, iZ_n]; rw [if_neg (by omega)]; rfl)) ?_
          exact ih5 (i + 1) (by omega)
        · skip
          refine z_aload_n C dX2_highestAlone_36 0 rfl ?_
          refine z_get C inX2_highestAlone_X2 0 wB_o rfl 4 (by decide) (C.w 3 rfl) rfl dX2_highestAlone_37 ?_
          refine z_iload C dX2_highestAlone_40 4 rfl ?_
          refine z_ialdN C 3 wB_ow (by omega) (by decide) dX2_highestAlone_42 (v := nI (zOw a i)) rfl ?_
          have f_42b := (ha.ow (b := i) (by omega))
          refine z_iload_n C dX2_highestAlone_43 2 rfl ?_
          refine z_icmp_eq C 51 dX2_highestAlone_44 (by decide) (zeq_ZZ (x := ((zOw a i : Nat) : Int)) (y := lo) (by unfold zB31; omega) (by unfold zB31; omega)) (fun c_44 => ?_) (fun c_44 => ?_)
          · skip
            refine z_iconst C (nI 0) dX2_highestAlone_51 (by decide) ?_
            refine z_istore C dX2_highestAlone_52 (by decide) [(5, .int (nI 0)), (0, .ref (q 0)), (1, .int (nI f)), (2, .int (iZ lo)), (3, .int (iZ (zHi a (zCo a f lo) i))), (4, .int (nI i))] rfl ?_
            refine z_iload C dX2_highestAlone_54 0 rfl ?_
            refine z_if_eq C 83 dX2_highestAlone_56 (by decide) (zeq_N0 (by omega)) (fun c_56 => ?_) (fun h9 => absurd (by decide) h9)
            refine z_iinc C dX2_highestAlone_83 5 (nI (i + 1)) rfl (nI_add i 1) (by decide) [(4, .int (nI (i + 1))), (5, .int (nI 0)), (0, .ref (q 0)), (1, .int (nI f)), (2, .int (iZ lo)), (3, .int (iZ (zHi a (zCo a f lo) i)))] rfl ?_
            refine z_goto C 5 dX2_highestAlone_86 (by decide) ?_
            refine zW.pick (lv' := [(0, .ref (q 0)), (1, .int (nI f)), (2, .int (iZ lo)), (3, .int (iZ (zHi a (zCo a f lo) i))), (4, .int (nI (i + 1)))]) [2, 3, 4, 5, 0] rfl ?_
            refine zW.lve (lv' := [(0, .ref (q 0)), (1, .int (nI f)), (2, .int (iZ lo)), (3, .int (iZ (zHi a (zCo a f lo) (i + 1)))), (4, .int (nI (i + 1)))]) (by first | (simp_all [zHi, zCo, iZ_n]; done) | (simp_all [zHi, zCo, iZ_n]; rw [if_neg (by omega)]; rfl)) ?_
            exact ih5 (i + 1) (by omega)
          · skip
            refine z_iconst C (nI 1) dX2_highestAlone_47 (by decide) ?_
            refine z_goto C 52 dX2_highestAlone_48 (by decide) ?_
            refine z_istore C dX2_highestAlone_52 (by decide) [(5, .int (nI 1)), (0, .ref (q 0)), (1, .int (nI f)), (2, .int (iZ lo)), (3, .int (iZ (zHi a (zCo a f lo) i))), (4, .int (nI i))] rfl ?_
            refine z_iload C dX2_highestAlone_54 0 rfl ?_
            refine z_if_eq C 83 dX2_highestAlone_56 (by decide) (zeq_N0 (by omega)) (fun h9 => absurd h9 (by decide)) (fun c_56 => ?_)
            refine z_iload_n C dX2_highestAlone_59 4 rfl ?_
            refine z_iconst C (iZ (-1)) dX2_highestAlone_60 (by decide) ?_
            refine z_icmp_eq C 80 dX2_highestAlone_61 (by decide) (zeq_ZZ (x := (zHi a (zCo a f lo) i)) (y := (-1)) (by unfold zB31; omega) (by unfold zB31; omega)) (fun c_61 => ?_) (fun c_61 => ?_)
            · skip
              refine z_iload C dX2_highestAlone_80 5 rfl ?_
              refine z_istore_n C dX2_highestAlone_82 (by decide) [(3, .int (nI i)), (5, .int (nI 1)), (0, .ref (q 0)), (1, .int (nI f)), (2, .int (iZ lo)), (4, .int (nI i))] rfl ?_
              refine z_iinc C dX2_highestAlone_83 5 (nI (i + 1)) rfl (nI_add i 1) (by decide) [(4, .int (nI (i + 1))), (3, .int (nI i)), (5, .int (nI 1)), (0, .ref (q 0)), (1, .int (nI f)), (2, .int (iZ lo))] rfl ?_
              refine z_goto C 5 dX2_highestAlone_86 (by decide) ?_
              refine zW.pick (lv' := [(0, .ref (q 0)), (1, .int (nI f)), (2, .int (iZ lo)), (3, .int (nI i)), (4, .int (nI (i + 1)))]) [3, 4, 5, 1, 0] rfl ?_
              refine zW.lve (lv' := [(0, .ref (q 0)), (1, .int (nI f)), (2, .int (iZ lo)), (3, .int (iZ (zHi a (zCo a f lo) (i + 1)))), (4, .int (nI (i + 1)))]) (by first | (simp_all [zHi, zCo, iZ_n]; done) | (simp_all [zHi, zCo, iZ_n]; rw [if_neg (by omega)]; rfl)) ?_
              exact ih5 (i + 1) (by omega)
            · skip
              obtain ⟨c, hc, hce, -⟩ := (zHi_or a (zCo a f lo) i).resolve_left c_61
              have f9 := ha.pr (b := c) (by omega)
              refine z_aload_n C dX2_highestAlone_64 1 rfl ?_
              refine z_get C inX2_highestAlone_X2 0 wB_o rfl 6 (by decide) (C.w 4 rfl) rfl dX2_highestAlone_65 ?_
              refine z_iload C dX2_highestAlone_68 5 rfl ?_
              refine z_ialdN C 5 wB_pr (by omega) (by decide) dX2_highestAlone_70 (v := nI (zPr a i)) rfl ?_
              have f_70b := (ha.pr (b := i) (by omega))
              refine z_aload_n C dX2_highestAlone_71 1 rfl ?_
              refine z_get C inX2_highestAlone_X2 0 wB_o rfl 6 (by decide) (C.w 4 rfl) rfl dX2_highestAlone_72 ?_
              refine z_iload_n C dX2_highestAlone_75 4 rfl ?_
              refine zW.top (y := nI c) (by rw [hce]; rfl) ?_
              refine z_ialdN C 5 wB_pr (by omega) (by decide) dX2_highestAlone_76 (v := nI (zPr a c)) rfl ?_
              have f_76b := (ha.pr (b := c) (by omega))
              refine z_icmp_le C 83 dX2_highestAlone_77 (by decide) (zle_NN (by omega) (by omega)) (fun c_77 => ?_) (fun c_77 => ?_)
              · skip
                refine z_iinc C dX2_highestAlone_83 5 (nI (i + 1)) rfl (nI_add i 1) (by decide) [(4, .int (nI (i + 1))), (5, .int (nI 1)), (0, .ref (q 0)), (1, .int (nI f)), (2, .int (iZ lo)), (3, .int (iZ (zHi a (zCo a f lo) i)))] rfl ?_
                refine z_goto C 5 dX2_highestAlone_86 (by decide) ?_
                refine zW.pick (lv' := [(0, .ref (q 0)), (1, .int (nI f)), (2, .int (iZ lo)), (3, .int (iZ (zHi a (zCo a f lo) i))), (4, .int (nI (i + 1)))]) [2, 3, 4, 5, 0] rfl ?_
                refine zW.lve (lv' := [(0, .ref (q 0)), (1, .int (nI f)), (2, .int (iZ lo)), (3, .int (iZ (zHi a (zCo a f lo) (i + 1)))), (4, .int (nI (i + 1)))]) (by first | (simp_all [zHi, zCo, iZ_n]; done) | (simp_all [zHi, zCo, iZ_n]; rw [if_neg (by omega)]; rfl)) ?_
                exact ih5 (i + 1) (by omega)
              · skip
                refine z_iload C dX2_highestAlone_80 5 rfl ?_
                refine z_istore_n C dX2_highestAlone_82 (by decide) [(3, .int (nI i)), (5, .int (nI 1)), (0, .ref (q 0)), (1, .int (nI f)), (2, .int (iZ lo)), (4, .int (nI i))] rfl ?_
                refine z_iinc C dX2_highestAlone_83 5 (nI (i + 1)) rfl (nI_add i 1) (by decide) [(4, .int (nI (i + 1))), (3, .int (nI i)), (5, .int (nI 1)), (0, .ref (q 0)), (1, .int (nI f)), (2, .int (iZ lo))] rfl ?_
                refine z_goto C 5 dX2_highestAlone_86 (by decide) ?_
                refine zW.pick (lv' := [(0, .ref (q 0)), (1, .int (nI f)), (2, .int (iZ lo)), (3, .int (nI i)), (4, .int (nI (i + 1)))]) [3, 4, 5, 1, 0] rfl ?_
                refine zW.lve (lv' := [(0, .ref (q 0)), (1, .int (nI f)), (2, .int (iZ lo)), (3, .int (iZ (zHi a (zCo a f lo) (i + 1)))), (4, .int (nI (i + 1)))]) (by first | (simp_all [zHi, zCo, iZ_n]; done) | (simp_all [zHi, zCo, iZ_n]; rw [if_neg (by omega)]; rfl)) ?_
                exact ih5 (i + 1) (by omega)
  exact hlp5 (zNb a) 0 (by omega)
theorem inX2_secondPrice_X2 : ∀ w ∈ wsX20, w ∈ wsX2_secondPrice := fun w h => List.mem_cons_of_mem _ (List.mem_append_right _ (h))
set_option maxRecDepth 100000 in
set_option maxHeartbeats 4000000 in
theorem c_X2_secondPrice_no (l : Launch) (g : zG) (q : Nat → Nat) (a : zS) (bs : Nat → Int × Nat) (wb pd gw : Nat → Nat → Int) (ha : zOk a) (f : Nat) (hf : f < zNf a) (c : Nat) (hc : c < zNb a) (hs : zHi a (zCo a f (zOw a c : Int)) (zNb a) = -1) : zM g l yX2_secondPrice wsX2_secondPrice { frames := 2, cells := 0, slots := 0, locals := 46 } [.ref (q 0), .int (nI f), .int (nI c)] (wB g q a (zG0 a) bs wb pd gw) (zPi (nI (zRs a f)) (wB g q a (zG0 a) bs wb pd gw)) 0 0 := by
  refine zM.of (cc := cX2_secondPrice) (nL := 4) (ret := (some .int)) (lv := [(0, .ref (q 0)), (1, .int (nI f)), (2, .int (nI c))]) (by decide) rfl (Nat.le_of_ble_eq_true rfl) rfl ?_
  intro E C0 hi
  have C : zC g E cX2_secondPrice RX2 wsX2_secondPrice 4 (some .int) := C0
  obtain ⟨hnf, hnd, hnb, hou, hrs, hbd⟩ := id ha
  refine z_aload_n C dX2_secondPrice_0 0 rfl ?_
  refine z_iload_n C dX2_secondPrice_1 1 rfl ?_
  refine z_aload_n C dX2_secondPrice_2 0 rfl ?_
  refine z_get C inX2_secondPrice_X2 0 wB_o rfl 4 (by decide) (C.w 1 rfl) rfl dX2_secondPrice_3 ?_
  refine z_iload_n C dX2_secondPrice_6 2 rfl ?_
  refine z_ialdN C 3 wB_ow (by omega) (by decide) dX2_secondPrice_7 (v := nI (zOw a c)) rfl ?_
  have f_7b := (ha.ow (b := c) (by omega))
  refine z_callV C (c_X2_highestAlone l g q a bs wb pd gw ha f (by omega) ((zOw a c : Nat) : Int) (by omega)) (cwV 2 C.ts gX2_secondPrice_X2_highestAlone rfl rfl rfl (by decide +kernel) ⟨Nat.le_of_ble_eq_true rfl, Nat.le_of_ble_eq_true rfl⟩) wB_o rfl rfl rfl (Nat.le_of_ble_eq_true rfl) dX2_secondPrice_8 ⟨Nat.zero_le _, Nat.zero_le _⟩ (z_i ?_)
  refine zW.top (y := iZ (-1)) (by rw [hs]) ?_
  refine z_istore_n C dX2_secondPrice_11 (by decide) [(3, .int (iZ (-1))), (0, .ref (q 0)), (1, .int (nI f)), (2, .int (nI c))] rfl ?_
  refine z_iload_n C dX2_secondPrice_12 0 rfl ?_
  refine z_iconst C (iZ (-1)) dX2_secondPrice_13 (by decide) ?_
  refine z_icmp_ne C 26 dX2_secondPrice_14 (by decide) (zeq_ZZ (x := (-1)) (y := (-1)) (by unfold zB31; omega) (by unfold zB31; omega)) (fun h9 => absurd (by decide) h9) (fun c_14 => ?_)
  refine z_aload_n C dX2_secondPrice_17 1 rfl ?_
  refine z_get C inX2_secondPrice_X2 0 wB_o rfl 0 (by decide) (C.w 2 rfl) rfl dX2_secondPrice_18 ?_
  refine z_iload_n C dX2_secondPrice_21 2 rfl ?_
  refine z_ialdN C 1 wB_rs (by omega) (by decide) dX2_secondPrice_22 (v := nI (zRs a f)) rfl ?_
  have f_22b := (ha.rs (f := f) (by omega))
  refine z_goto C 32 dX2_secondPrice_23 (by decide) ?_
  exact z_iretP C dX2_secondPrice_32 rfl rfl
set_option maxRecDepth 100000 in
set_option maxHeartbeats 4000000 in
theorem c_X2_secondPrice_b (l : Launch) (g : zG) (q : Nat → Nat) (a : zS) (bs : Nat → Int × Nat) (wb pd gw : Nat → Nat → Int) (ha : zOk a) (f : Nat) (hf : f < zNf a) (c : Nat) (hc : c < zNb a) (c2 : Nat) (hc2 : c2 < zNb a) (hs : zHi a (zCo a f (zOw a c : Int)) (zNb a) = (c2 : Int)) : zM g l yX2_secondPrice wsX2_secondPrice { frames := 2, cells := 0, slots := 0, locals := 46 } [.ref (q 0), .int (nI f), .int (nI c)] (wB g q a (zG0 a) bs wb pd gw) (zPi (nI (zPr a c2)) (wB g q a (zG0 a) bs wb pd gw)) 0 0 := by
  refine zM.of (cc := cX2_secondPrice) (nL := 4) (ret := (some .int)) (lv := [(0, .ref (q 0)), (1, .int (nI f)), (2, .int (nI c))]) (by decide) rfl (Nat.le_of_ble_eq_true rfl) rfl ?_
  intro E C0 hi
  have C : zC g E cX2_secondPrice RX2 wsX2_secondPrice 4 (some .int) := C0
  obtain ⟨hnf, hnd, hnb, hou, hrs, hbd⟩ := id ha
  refine z_aload_n C dX2_secondPrice_0 0 rfl ?_
  refine z_iload_n C dX2_secondPrice_1 1 rfl ?_
  refine z_aload_n C dX2_secondPrice_2 0 rfl ?_
  refine z_get C inX2_secondPrice_X2 0 wB_o rfl 4 (by decide) (C.w 1 rfl) rfl dX2_secondPrice_3 ?_
  refine z_iload_n C dX2_secondPrice_6 2 rfl ?_
  refine z_ialdN C 3 wB_ow (by omega) (by decide) dX2_secondPrice_7 (v := nI (zOw a c)) rfl ?_
  have f_7b := (ha.ow (b := c) (by omega))
  refine z_callV C (c_X2_highestAlone l g q a bs wb pd gw ha f (by omega) ((zOw a c : Nat) : Int) (by omega)) (cwV 2 C.ts gX2_secondPrice_X2_highestAlone rfl rfl rfl (by decide +kernel) ⟨Nat.le_of_ble_eq_true rfl, Nat.le_of_ble_eq_true rfl⟩) wB_o rfl rfl rfl (Nat.le_of_ble_eq_true rfl) dX2_secondPrice_8 ⟨Nat.zero_le _, Nat.zero_le _⟩ (z_i ?_)
  refine zW.top (y := nI c2) (by rw [hs]; rfl) ?_
  refine z_istore_n C dX2_secondPrice_11 (by decide) [(3, .int (nI c2)), (0, .ref (q 0)), (1, .int (nI f)), (2, .int (nI c))] rfl ?_
  refine z_iload_n C dX2_secondPrice_12 0 rfl ?_
  refine z_iconst C (iZ (-1)) dX2_secondPrice_13 (by decide) ?_
  refine z_icmp_ne C 26 dX2_secondPrice_14 (by decide) (zeq_ZZ (x := ((c2 : Nat) : Int)) (y := (-1)) (by unfold zB31; omega) (by unfold zB31; omega)) (fun c_14 => ?_) (fun h9 => absurd h9 (by omega))
  refine z_aload_n C dX2_secondPrice_26 1 rfl ?_
  refine z_get C inX2_secondPrice_X2 0 wB_o rfl 6 (by decide) (C.w 3 rfl) rfl dX2_secondPrice_27 ?_
  refine z_iload_n C dX2_secondPrice_30 0 rfl ?_
  refine z_ialdN C 5 wB_pr (by omega) (by decide) dX2_secondPrice_31 (v := nI (zPr a c2)) rfl ?_
  have f_31b := (ha.pr (b := c2) (by omega))
  exact z_iretP C dX2_secondPrice_32 rfl rfl
