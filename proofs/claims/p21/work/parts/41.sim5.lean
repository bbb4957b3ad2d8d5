/-- a row of answers -/
def zRw (n : Nat) (F : Nat → Int) : Nat → Int32 := fun j => if j < n then iZ (F j) else nI 0
theorem zRw_at {n : Nat} {F : Nat → Int} {j : Nat} (h : j < n) : zRw n F j = iZ (F j) := if_pos h
theorem zRw6_of {F : Nat → Int} {x0 x1 x2 x3 x4 x5 : Int32} (h0 : x0 = iZ (F 0)) (h1 : x1 = iZ (F 1)) (h2 : x2 = iZ (F 2)) (h3 : x3 = iZ (F 3)) (h4 : x4 = iZ (F 4)) (h5 : x5 = iZ (F 5)) : upd (upd (upd (upd (upd (upd (fun _ => nI 0) 0 x0) 1 x1) 2 x2) 3 x3) 4 x4) 5 x5 = zRw 6 F := by
  funext j
  match j with
  | 0 => exact h0
  | 1 => exact h1
  | 2 => exact h2
  | 3 => exact h3
  | 4 => exact h4
  | 5 => exact h5
  | m + 6 => rfl
theorem zRw8_of {F : Nat → Int} {x0 x1 x2 x3 x4 x5 x6 x7 : Int32} (h0 : x0 = iZ (F 0)) (h1 : x1 = iZ (F 1)) (h2 : x2 = iZ (F 2)) (h3 : x3 = iZ (F 3)) (h4 : x4 = iZ (F 4)) (h5 : x5 = iZ (F 5)) (h6 : x6 = iZ (F 6)) (h7 : x7 = iZ (F 7)) : upd (upd (upd (upd (upd (upd (upd (upd (fun _ => nI 0) 0 x0) 1 x1) 2 x2) 3 x3) 4 x4) 5 x5) 6 x6) 7 x7 = zRw 8 F := by
  funext j
  match j with
  | 0 => exact h0
  | 1 => exact h1
  | 2 => exact h2
  | 3 => exact h3
  | 4 => exact h4
  | 5 => exact h5
  | 6 => exact h6
  | 7 => exact h7
  | m + 8 => rfl
theorem zRw9_of {F : Nat → Int} {x0 x1 x2 x3 x4 x5 x6 x7 x8 : Int32} (h0 : x0 = iZ (F 0)) (h1 : x1 = iZ (F 1)) (h2 : x2 = iZ (F 2)) (h3 : x3 = iZ (F 3)) (h4 : x4 = iZ (F 4)) (h5 : x5 = iZ (F 5)) (h6 : x6 = iZ (F 6)) (h7 : x7 = iZ (F 7)) (h8 : x8 = iZ (F 8)) : upd (upd (upd (upd (upd (upd (upd (upd (upd (fun _ => nI 0) 0 x0) 1 x1) 2 x2) 3 x3) 4 x4) 5 x5) 6 x6) 7 x7) 8 x8 = zRw 9 F := by
  funext j
  match j with
  | 0 => exact h0
  | 1 => exact h1
  | 2 => exact h2
  | 3 => exact h3
  | 4 => exact h4
  | 5 => exact h5
  | 6 => exact h6
  | 7 => exact h7
  | 8 => exact h8
  | m + 9 => rfl
theorem zOrs_bit (f : Nat → Nat) (k : Nat) : ∀ n, (zOrs f n).testBit k = true ↔ ∃ b, b < n ∧ (f b).testBit k = true
  | 0 => by simp [zOrs]
  | n + 1 => by
    unfold zOrs
    rw [Nat.testBit_or, Bool.or_eq_true, zOrs_bit f k n]
    constructor
    · rintro (⟨b, h1, h2⟩ | h)
      · exact ⟨b, by omega, h2⟩
      · exact ⟨n, by omega, h⟩
    · rintro ⟨b, h1, h2⟩
      by_cases e : b = n
      · subst e; exact Or.inr h2
      · exact Or.inl ⟨b, by omega, h2⟩
/-- who has no bid pays nothing -/
theorem aPaid_0 {a : zS} (ha : zOk a) {d : Nat} (hd : zNd a ≤ d) : aPaid a d = 0 := by
  unfold aPaid
  rw [zLp_of]
  rcases zLw_spec a (zFw a 0).2 d (zNb a) with ⟨e, -⟩ | ⟨c, h1, -, h3⟩
  · rw [if_pos e]
  · have := ha.ow h1; omega
theorem zSi_tail {f : Nat → Int} {n : Nat} : ∀ j, (∀ i, n ≤ i → f i = 0) → zSi f (n + j) = zSi f n
  | 0, _ => rfl
  | j + 1, h => by
    show zSi f (n + j) + f (n + j) = _
    rw [zSi_tail j h, h (n + j) (by omega)]
    omega
theorem aPaid_all {a : zS} (ha : zOk a) : zSi (aPaid a) 5 = zSi (aPaid a) (zNd a) := by
  have h1 := ha.2.1
  have h := zSi_tail (f := aPaid a) (n := zNd a) (5 - zNd a) (fun i hi => aPaid_0 ha hi)
  rwa [show zNd a + (5 - zNd a) = 5 by omega] at h
theorem zPop_s (n k : Nat) : zPop n (k + 1) = zPop n k + (if n.testBit k = true then 1 else 0) := rfl
theorem zPop_tail {x n : Nat} : ∀ j, (∀ i, n ≤ i → x.testBit i = false) → zPop x (n + j) = zPop x n
  | 0, _ => rfl
  | j + 1, h => by
    show zPop x (n + j + 1) = _
    rw [zPop_s, zPop_tail j h, h (n + j) (by omega)]
    rfl
theorem aSold_nf {a : zS} (ha : zOk a) : aSold a < 2 ^ zNf a := by
  refine zOrs_lt _ (fun i hi => ?_)
  show (if _ then _ else _) < _
  split
  · exact ha.bu hi
  · exact Nat.two_pow_pos _
theorem aSold_pop {a : zS} (ha : zOk a) : zPop (aSold a) (zNf a) = zPop (aSold a) 12 := by
  have hnf := ha.1
  have h := zPop_tail (x := aSold a) (n := zNf a) (12 - zNf a) (fun i hi => Nat.testBit_lt_two_pow (Nat.lt_of_lt_of_le (aSold_nf ha) (zp2_le hi)))
  rw [show zNf a + (12 - zNf a) = 12 by omega] at h
  exact h.symm
/-- of the bids that win, a field has one at most -/
theorem zFw_fld {a : zS} (ha : zOk a) {b c f : Nat} (hb : (zFw a 0).2.testBit b = true) (hc : (zFw a 0).2.testBit c = true) (h1 : (zBu a b).testBit f = true) (h2 : (zBu a c).testBit f = true) : b = c := by
  by_cases e : b = c
  · exact e
  · exact absurd ⟨h1, h2⟩ (zand_0.mp ((zFw_top ha 0).2.1.2.2 b c hb hc e).2 f)
def zWl (a : zS) (f : Nat) : Nat → Int
  | 0 => -1
  | n + 1 => if (zFw a 0).2.testBit n = true ∧ (zBu a n).testBit f = true then (zOw a n : Int) else zWl a f n
theorem zWl_y {a : zS} {f n : Nat} (h1 : (zFw a 0).2.testBit n = true) (h2 : (zBu a n).testBit f = true) : zWl a f (n + 1) = (zOw a n : Int) := if_pos ⟨h1, h2⟩
theorem zWl_n {a : zS} {f n : Nat} (h : ¬ ((zFw a 0).2.testBit n = true ∧ (zBu a n).testBit f = true)) : zWl a f (n + 1) = zWl a f n := if_neg h
theorem zWl_spec (a : zS) (f : Nat) : ∀ n, (zWl a f n = -1 ∧ ∀ b, b < n → ¬ ((zFw a 0).2.testBit b = true ∧ (zBu a b).testBit f = true)) ∨ ∃ b, b < n ∧ zWl a f n = (zOw a b : Int) ∧ (zFw a 0).2.testBit b = true ∧ (zBu a b).testBit f = true
  | 0 => Or.inl ⟨rfl, fun b h => absurd h (Nat.not_lt_zero b)⟩
  | n + 1 => by
    by_cases h : (zFw a 0).2.testBit n = true ∧ (zBu a n).testBit f = true
    · rw [zWl_y h.1 h.2]
      exact Or.inr ⟨n, by omega, rfl, h⟩
    · rw [zWl_n h]
      rcases zWl_spec a f n with ⟨e, h1⟩ | ⟨b, h1, h2⟩
      · refine Or.inl ⟨e, fun b hb => ?_⟩
        by_cases q : b = n
        · rw [q]; exact h
        · exact h1 b (by omega)
      · exact Or.inr ⟨b, by omega, h2⟩
theorem zWl_bnd {a : zS} (ha : zOk a) (f : Nat) {n : Nat} (hn : n ≤ zNb a) : -1 ≤ zWl a f n ∧ zWl a f n < 5 := by
  have hnd := ha.2.1
  rcases zWl_spec a f n with ⟨e, -⟩ | ⟨b, h1, h2, -⟩
  · omega
  · have := ha.ow (b := b) (by omega)
    omega
theorem aWf_spec (a : zS) (f : Nat) : (aWf a f = -1 ∧ ∀ b, b < zNb a → ¬ ((zFw a 0).2.testBit b = true ∧ (zBu a b).testBit f = true)) ∨ ∃ b, b < zNb a ∧ aWf a f = (b : Int) ∧ (zFw a 0).2.testBit b = true ∧ (zBu a b).testBit f = true := by
  unfold aWf
  rcases zFst_spec (fun b => (zFw a 0).2.testBit b && (zBu a b).testBit f) (zNb a) 0 with ⟨e, h⟩ | ⟨c, -, h1, e, h2⟩
  · refine Or.inl ⟨e, fun b hb hq => ?_⟩
    have := h b (Nat.zero_le _) (by omega)
    simp [hq.1, hq.2] at this
  · simp only [Bool.and_eq_true] at h2
    exact Or.inr ⟨c, by omega, e, h2⟩
theorem zWl_land {a : zS} (ha : zOk a) (f : Nat) : zWl a f (zNb a) = aLand a f 1 := by
  show _ = if aWf a f = -1 then -1 else (zOw a (aWf a f).toNat : Int)
  rcases aWf_spec a f with ⟨e, h⟩ | ⟨b, h1, e, h2, h3⟩ <;> rcases zWl_spec a f (zNb a) with ⟨e2, g⟩ | ⟨c, g1, e2, g2, g3⟩
  · rw [e2, if_pos e]
  · exact absurd ⟨g2, g3⟩ (h c g1)
  · exact absurd ⟨h2, h3⟩ (g b h1)
  · rw [e2, e, if_neg (by omega), zFw_fld ha g2 h2 g3 h3]
    rfl
theorem zCnt_y {p : Nat → Bool} {n : Nat} (h : p n = true) : zCnt p (n + 1) = zCnt p n + 1 := by
  show zCnt p n + (if p n = true then 1 else 0) = _
  rw [if_pos h]
theorem zCnt_n {p : Nat → Bool} {n : Nat} (h : p n = false) : zCnt p (n + 1) = zCnt p n := by
  show zCnt p n + (if p n = true then 1 else 0) = _
  rw [h]; rfl
theorem zCnt_le (p : Nat → Bool) : ∀ n, zCnt p n ≤ n
  | 0 => Nat.le_refl 0
  | n + 1 => by
    have := zCnt_le p n
    show zCnt p n + (if p n = true then 1 else 0) ≤ n + 1
    split <;> omega
theorem zLf_y {a : zS} {d j : Nat} (h : zOw a j = d) (hg : zGo a j ≤ 1) : zCnt (fun b => decide (zOw a b = d) && zGo a b == 0) (j + 1) = zCnt (fun b => decide (zOw a b = d) && zGo a b == 0) j + (1 - zGo a j) := by
  rcases (show zGo a j = 0 ∨ zGo a j = 1 by omega) with e | e
  · rw [zCnt_y (by simp [h, e]), e]
  · rw [zCnt_n (by simp [e]), e]; rfl
theorem zLf_n {a : zS} {d j : Nat} (h : ¬ zOw a j = d) : zCnt (fun b => decide (zOw a b = d) && zGo a b == 0) (j + 1) = zCnt (fun b => decide (zOw a b = d) && zGo a b == 0) j + 0 := zCnt_n (by simp [h])
theorem zOrs_y {S : Nat} {f : Nat → Nat} {n : Nat} (h : S.testBit n = true) : zOrs (fun b => if S.testBit b = true then f b else 0) (n + 1) = zOrs (fun b => if S.testBit b = true then f b else 0) n ||| f n := by
  show _ ||| (if S.testBit n = true then f n else 0) = _
  rw [if_pos h]
theorem zOrs_n {S : Nat} {f : Nat → Nat} {n : Nat} (h : ¬ S.testBit n = true) : zOrs (fun b => if S.testBit b = true then f b else 0) (n + 1) = zOrs (fun b => if S.testBit b = true then f b else 0) n := by
  show _ ||| (if S.testBit n = true then f n else 0) = _
  rw [if_neg h, Nat.or_zero]
theorem zSum_y {S : Nat} {f : Nat → Nat} {n : Nat} (h : S.testBit n = true) : zSum (fun b => if S.testBit b = true then f b else 0) (n + 1) = zSum (fun b => if S.testBit b = true then f b else 0) n + f n := by
  show _ + (if S.testBit n = true then f n else 0) = _
  rw [if_pos h]
theorem zSum_n {S : Nat} {f : Nat → Nat} {n : Nat} (h : ¬ S.testBit n = true) : zSum (fun b => if S.testBit b = true then f b else 0) (n + 1) = zSum (fun b => if S.testBit b = true then f b else 0) n := by
  show _ + (if S.testBit n = true then f n else 0) = _
  rw [if_neg h, Nat.add_zero]
theorem zcmp_self {x : UInt64} (h : FP.Core.dIsNaN x = false) : Op.cmpValue (FP.dcmp x x) .l = 0 := by
  rw [show FP.dcmp x x = some .eq from FP.Core.dcmp_refl h]; rfl
theorem zPfv_0 {a : zS} {d : Nat} : aProf a d = if aWin a d = -1 then 0 else (zWo a (aWin a d).toNat : Int) - aPaid a d := rfl
theorem inX3_isSame_X3 : ∀ w ∈ wsX30, w ∈ wsX3_isSame := fun w h => List.mem_cons_of_mem _ (List.mem_append_left _ (List.mem_append_left _ (List.mem_append_left _ (List.mem_append_left _ (List.mem_append_right _ (h))))))
set_option maxRecDepth 100000 in
set_option maxHeartbeats 4000000 in
theorem c_X3_isSame (l : Launch) (g : zG) (q p : Nat → Nat) (a : zS) (bs : Nat → Int × Nat) (wb pd gw : Nat → Nat → Int) (sm : Int × Nat × Nat) (ha : zOk a) (hs : zSet a bs wb pd gw 0 0) : zM g l yX3_isSame wsX3_isSame { frames := 13, cells := 26, slots := 159, locals := 315 } [.ref (p 0), .ref (q 0)] (wB g q a (zG0 a) bs wb pd gw ++ (wS g p a sm)) (zPie (bI true) (fun _ => True)) 26 159 := by
  refine zM.of (cc := cX3_isSame) (nL := 15) (ret := (some .boolean)) (lv := [(0, .ref (p 0)), (1, .ref (q 0))]) (by decide) rfl (Nat.le_of_ble_eq_true rfl) rfl ?_
  intro E C0 hi
  have C : zC g E cX3_isSame RX3 wsX3_isSame 15 (some .boolean) := C0
  obtain ⟨hnf, hnd, hnb, hou, hrs, hbd⟩ := id ha
  have hs0 := zFw_ok ha 0
  obtain ⟨hs1, hs2, hs3⟩ := id hs0
  have hpl := zPop_le (zFw a 0).2 12
  refine z_aload_n C dX3_isSame_0 0 rfl ?_
  refine z_iconst C (iZ (-1)) dX3_isSame_1 (by decide) ?_
  refine z_callV C (zM.fh (c_X3_sale l g p a sm ha (-1) ⟨by decide, by decide⟩ (zFw a 0) (zCh_all ha)) (wB g q a (zG0 a) bs wb pd gw)) (cwV 1 C.ts gX3_isSame_X3_sale rfl rfl rfl (by decide +kernel) ⟨Nat.le_of_ble_eq_true rfl, Nat.le_of_ble_eq_true rfl⟩) (zapp_B wS_o) rfl rfl rfl (Nat.le_of_ble_eq_true rfl) dX3_isSame_2 ⟨by dsimp only; omega, by dsimp only; omega⟩ ?_
  rintro _ _ ⟨_, ⟨rfl, rfl⟩, rfl⟩
  refine zW.eqst (st2 := [.int (nI ((zFw a 0).2))]) rfl ?_
  refine z_istore_n C dX3_isSame_5 (by decide) [(2, .int (nI ((zFw a 0).2))), (0, .ref (p 0)), (1, .ref (q 0))] rfl ?_
  refine z_aload_n C dX3_isSame_6 1 rfl ?_
  refine z_get C inX3_isSame_X3 (20 + 0) (zapp_B wS_o) rfl 3 (by decide) (C.w 1 rfl) rfl dX3_isSame_7 ?_
  refine z_istore_n C dX3_isSame_10 (by decide) [(3, .int (iZ ((zFw a 0).1))), (2, .int (nI ((zFw a 0).2))), (0, .ref (p 0)), (1, .ref (q 0))] rfl ?_
  refine z_aload_n C dX3_isSame_11 2 rfl ?_
  refine z_get C inX3_isSame_X3 (20 + 0) (zapp_B wS_o) rfl 4 (by decide) (C.w 2 rfl) rfl dX3_isSame_12 ?_
  refine z_istore C dX3_isSame_15 (by decide) [(4, .int (nI (zPop (zFw a 0).2 12))), (3, .int (iZ ((zFw a 0).1))), (2, .int (nI ((zFw a 0).2))), (0, .ref (p 0)), (1, .ref (q 0))] rfl ?_
  refine z_iconst C (nI 0) dX3_isSame_17 (by decide) ?_
  refine z_istore C dX3_isSame_18 (by decide) [(5, .int (nI 0)), (4, .int (nI (zPop (zFw a 0).2 12))), (3, .int (iZ ((zFw a 0).1))), (2, .int (nI ((zFw a 0).2))), (0, .ref (p 0)), (1, .ref (q 0))] rfl ?_
  refine z_iconst C (nI 0) dX3_isSame_20 (by decide) ?_
  refine z_istore C dX3_isSame_21 (by decide) [(6, .int (nI 0)), (5, .int (nI 0)), (4, .int (nI (zPop (zFw a 0).2 12))), (3, .int (iZ ((zFw a 0).1))), (2, .int (nI ((zFw a 0).2))), (0, .ref (p 0)), (1, .ref (q 0))] rfl ?_
  refine z_iconst C (nI 0) dX3_isSame_23 (by decide) ?_
  refine z_istore C dX3_isSame_24 (by decide) [(7, .int (nI 0)), (6, .int (nI 0)), (5, .int (nI 0)), (4, .int (nI (zPop (zFw a 0).2 12))), (3, .int (iZ ((zFw a 0).1))), (2, .int (nI ((zFw a 0).2))), (0, .ref (p 0)), (1, .ref (q 0))] rfl ?_
  refine zW.pick (lv' := [(0, .ref (p 0)), (1, .ref (q 0)), (2, .int (nI ((zFw a 0).2))), (3, .int (iZ ((zFw a 0).1))), (4, .int (nI (zPop (zFw a 0).2 12))), (5, .int (nI 0)), (6, .int (nI 0)), (7, .int (nI 0))]) [6, 7, 5, 4, 3, 2, 1, 0] rfl ?_
  have hlp26 : ∀ (k i : Nat), i + k = zNb a → zW g l ({ frames := 13, cells := 26, slots := 159, locals := 315 }) E (zMQ g E (zPie (bI true) (fun _ => True)) 26 159) 15 i (8 * i) (wB g q a (zG0 a) bs wb pd gw ++ (wS g p a (zT3 (zFw a 0)))) [(0, .ref (p 0)), (1, .ref (q 0)), (2, .int (nI ((zFw a 0).2))), (3, .int (iZ ((zFw a 0).1))), (4, .int (nI (zPop (zFw a 0).2 12))), (5, .int (nI (zOrs (fun b => if (zFw a 0).2.testBit b = true then zBu a b else 0) i))), (6, .int (nI (zSum (fun b => if (zFw a 0).2.testBit b = true then zPr a b else 0) i))), (7, .int (nI i))] [] 26 := by
    intro k
    induction k with
    | zero =>
      intro i hik
      refine z_iload C dX3_isSame_26 7 rfl ?_
      refine z_aload_n C dX3_isSame_28 0 rfl ?_
      refine z_get C inX3_isSame_X3 (20 + 0) (zapp_B wS_o) rfl 2 (by decide) (C.w 3 rfl) rfl dX3_isSame_29 ?_
      refine z_alenR C (20 + 3) (zapp_B wS_bi) dX3_isSame_32 ?_
      refine z_icmp_ge C 217 dX3_isSame_33 (by decide) (zle_NN (by omega) (by omega)) (fun c_33 => ?_) (fun h9 => absurd (by omega) h9)
      refine zW.pick (lv' := [(0, .ref (p 0)), (1, .ref (q 0)), (2, .int (nI ((zFw a 0).2))), (3, .int (iZ ((zFw a 0).1))), (4, .int (nI (zPop (zFw a 0).2 12))), (5, .int (nI (zOrs (fun b => if (zFw a 0).2.testBit b = true then zBu a b else 0) i))), (6, .int (nI (zSum (fun b => if (zFw a 0).2.testBit b = true then zPr a b else 0) i)))]) [0, 1, 2, 3, 4, 5, 6] rfl ?_
      refine zW.lve (lv' := [(0, .ref (p 0)), (1, .ref (q 0)), (2, .int (nI ((zFw a 0).2))), (3, .int (iZ ((zFw a 0).1))), (4, .int (nI (zPop (zFw a 0).2 12))), (5, .int (nI (aSold a))), (6, .int (nI (zSum (fun b => if (zFw a 0).2.testBit b = true then zPr a b else 0) (zNb a))))]) (by rw [show i = zNb a by omega]; rfl) ?_
      refine zW.wid (k := 12) (n := 96) (by omega) (by omega) ?_
      refine z_iconst C (nI 0) dX3_isSame_217 (by decide) ?_
      refine z_istore C dX3_isSame_218 (by decide) [(7, .int (nI 0)), (0, .ref (p 0)), (1, .ref (q 0)), (2, .int (nI ((zFw a 0).2))), (3, .int (iZ ((zFw a 0).1))), (4, .int (nI (zPop (zFw a 0).2 12))), (5, .int (nI (aSold a))), (6, .int (nI (zSum (fun b => if (zFw a 0).2.testBit b = true then zPr a b else 0) (zNb a))))] rfl ?_
      refine z_iconst C (nI 0) dX3_isSame_220 (by decide) ?_
      refine z_istore C dX3_isSame_221 (by decide) [(8, .int (nI 0)), (7, .int (nI 0)), (0, .ref (p 0)), (1, .ref (q 0)), (2, .int (nI ((zFw a 0).2))), (3, .int (iZ ((zFw a 0).1))), (4, .int (nI (zPop (zFw a 0).2 12))), (5, .int (nI (aSold a))), (6, .int (nI (zSum (fun b => if (zFw a 0).2.testBit b = true then zPr a b else 0) (zNb a))))] rfl ?_
      refine z_iconst C (nI 0) dX3_isSame_223 (by decide) ?_
      refine z_istore C dX3_isSame_224 (by decide) [(9, .int (nI 0)), (8, .int (nI 0)), (7, .int (nI 0)), (0, .ref (p 0)), (1, .ref (q 0)), (2, .int (nI ((zFw a 0).2))), (3, .int (iZ ((zFw a 0).1))), (4, .int (nI (zPop (zFw a 0).2 12))), (5, .int (nI (aSold a))), (6, .int (nI (zSum (fun b => if (zFw a 0).2.testBit b = true then zPr a b else 0) (zNb a))))] rfl ?_
      refine zW.pick (lv' := [(0, .ref (p 0)), (1, .ref (q 0)), (2, .int (nI ((zFw a 0).2))), (3, .int (iZ ((zFw a 0).1))), (4, .int (nI (zPop (zFw a 0).2 12))), (5, .int (nI (aSold a))), (6, .int (nI (zSum (fun b => if (zFw a 0).2.testBit b = true then zPr a b else 0) (zNb a)))), (7, .int (nI 0)), (8, .int (nI 0)), (9, .int (nI 0))]) [3, 4, 5, 6, 7, 8, 9, 2, 1, 0] rfl ?_
      have hlp226 : ∀ (kd d : Nat) (sm2 : Int × Nat × Nat), d + kd = zNd a → zW g l ({ frames := 13, cells := 26, slots := 159, locals := 315 }) E (zMQ g E (zPie (bI true) (fun _ => True)) 26 159) 15 (12 + d) (96 + 6 * d) (wB g q a (zG0 a) bs wb pd gw ++ (wS g p a sm2)) [(0, .ref (p 0)), (1, .ref (q 0)), (2, .int (nI ((zFw a 0).2))), (3, .int (iZ ((zFw a 0).1))), (4, .int (nI (zPop (zFw a 0).2 12))), (5, .int (nI (aSold a))), (6, .int (nI (zSum (fun b => if (zFw a 0).2.testBit b = true then zPr a b else 0) (zNb a)))), (7, .int (iZ (zSi (aPaid a) d))), (8, .int (iZ (zSi (aProf a) d))), (9, .int (nI d))] [] 226 := by
        intro kd
        induction kd with
        | zero =>
          intro d sm2 hdk
          refine z_iload C dX3_isSame_226 9 rfl ?_
          refine z_aload_n C dX3_isSame_228 0 rfl ?_
          refine z_get C inX3_isSame_X3 (20 + 0) (zapp_B wS_o) rfl 1 (by decide) (C.w 5 rfl) rfl dX3_isSame_229 ?_
          refine z_alenZ C (20 + 2) (zapp_B wS_in) dX3_isSame_232 ?_
          refine z_icmp_ge C 432 dX3_isSame_233 (by decide) (zle_NN (by omega) (by omega)) (fun c_233 => ?_) (fun h9 => absurd (by omega) h9)
          refine zW.pick (lv' := [(0, .ref (p 0)), (1, .ref (q 0)), (2, .int (nI ((zFw a 0).2))), (3, .int (iZ ((zFw a 0).1))), (4, .int (nI (zPop (zFw a 0).2 12))), (5, .int (nI (aSold a))), (6, .int (nI (zSum (fun b => if (zFw a 0).2.testBit b = true then zPr a b else 0) (zNb a)))), (7, .int (iZ (zSi (aPaid a) d))), (8, .int (iZ (zSi (aProf a) d)))]) [0, 1, 2, 3, 4, 5, 6, 7, 8] rfl ?_
          refine zW.lve (lv' := [(0, .ref (p 0)), (1, .ref (q 0)), (2, .int (nI ((zFw a 0).2))), (3, .int (iZ ((zFw a 0).1))), (4, .int (nI (zPop (zFw a 0).2 12))), (5, .int (nI (aSold a))), (6, .int (nI (zSum (fun b => if (zFw a 0).2.testBit b = true then zPr a b else 0) (zNb a)))), (7, .int (iZ (zSi (aPaid a) (zNd a)))), (8, .int (iZ (zSi (aProf a) (zNd a))))]) (by rw [show d = zNd a by omega]) ?_
          refine zW.wid (k := 17) (n := 126) (by omega) (by omega) ?_
          refine z_iconst C (nI 0) dX3_isSame_432 (by decide) ?_
          refine z_istore C dX3_isSame_433 (by decide) [(9, .int (nI 0)), (0, .ref (p 0)), (1, .ref (q 0)), (2, .int (nI ((zFw a 0).2))), (3, .int (iZ ((zFw a 0).1))), (4, .int (nI (zPop (zFw a 0).2 12))), (5, .int (nI (aSold a))), (6, .int (nI (zSum (fun b => if (zFw a 0).2.testBit b = true then zPr a b else 0) (zNb a)))), (7, .int (iZ (zSi (aPaid a) (zNd a)))), (8, .int (iZ (zSi (aProf a) (zNd a))))] rfl ?_
          refine z_iconst C (nI 0) dX3_isSame_435 (by decide) ?_
          refine z_istore C dX3_isSame_436 (by decide) [(10, .int (nI 0)), (9, .int (nI 0)), (0, .ref (p 0)), (1, .ref (q 0)), (2, .int (nI ((zFw a 0).2))), (3, .int (iZ ((zFw a 0).1))), (4, .int (nI (zPop (zFw a 0).2 12))), (5, .int (nI (aSold a))), (6, .int (nI (zSum (fun b => if (zFw a 0).2.testBit b = true then zPr a b else 0) (zNb a)))), (7, .int (iZ (zSi (aPaid a) (zNd a)))), (8, .int (iZ (zSi (aProf a) (zNd a))))] rfl ?_
          refine zW.pick (lv' := [(0, .ref (p 0)), (1, .ref (q 0)), (2, .int (nI ((zFw a 0).2))), (3, .int (iZ ((zFw a 0).1))), (4, .int (nI (zPop (zFw a 0).2 12))), (5, .int (nI (aSold a))), (6, .int (nI (zSum (fun b => if (zFw a 0).2.testBit b = true then zPr a b else 0) (zNb a)))), (7, .int (iZ (zSi (aPaid a) (zNd a)))), (8, .int (iZ (zSi (aProf a) (zNd a)))), (9, .int (nI 0)), (10, .int (nI 0))]) [2, 3, 4, 5, 6, 7, 8, 9, 10, 1, 0] rfl ?_
          have hlp438 : ∀ (kf f : Nat) (sm3 : Int × Nat × Nat), f + kf = zNf a → zW g l ({ frames := 13, cells := 26, slots := 159, locals := 315 }) E (zMQ g E (zPie (bI true) (fun _ => True)) 26 159) 15 (17 + f) (126 + 3 * f) (wB g q a (zG0 a) bs wb pd gw ++ (wS g p a sm3)) [(0, .ref (p 0)), (1, .ref (q 0)), (2, .int (nI ((zFw a 0).2))), (3, .int (iZ ((zFw a 0).1))), (4, .int (nI (zPop (zFw a 0).2 12))), (5, .int (nI (aSold a))), (6, .int (nI (zSum (fun b => if (zFw a 0).2.testBit b = true then zPr a b else 0) (zNb a)))), (7, .int (iZ (zSi (aPaid a) (zNd a)))), (8, .int (iZ (zSi (aProf a) (zNd a)))), (9, .int (nI (zPop (aSold a) f))), (10, .int (nI f))] [] 438 := by
            intro kf
            induction kf with
            | zero =>
              intro f sm3 hfk
              refine z_iload C dX3_isSame_438 10 rfl ?_
              refine z_aload_n C dX3_isSame_440 0 rfl ?_
              refine z_get C inX3_isSame_X3 (20 + 0) (zapp_B wS_o) rfl 0 (by decide) (C.w 6 rfl) rfl dX3_isSame_441 ?_
              refine z_alenI C (20 + 1) (zapp_B wS_rs) dX3_isSame_444 ?_
              refine z_icmp_ge C 635 dX3_isSame_445 (by decide) (zle_NN (by omega) (by omega)) (fun c_445 => ?_) (fun h9 => absurd (by omega) h9)
              refine zW.pick (lv' := [(0, .ref (p 0)), (1, .ref (q 0)), (2, .int (nI ((zFw a 0).2))), (3, .int (iZ ((zFw a 0).1))), (4, .int (nI (zPop (zFw a 0).2 12))), (5, .int (nI (aSold a))), (6, .int (nI (zSum (fun b => if (zFw a 0).2.testBit b = true then zPr a b else 0) (zNb a)))), (7, .int (iZ (zSi (aPaid a) (zNd a)))), (8, .int (iZ (zSi (aProf a) (zNd a)))), (9, .int (nI (zPop (aSold a) f)))]) [0, 1, 2, 3, 4, 5, 6, 7, 8, 9] rfl ?_
              refine zW.lve (lv' := [(0, .ref (p 0)), (1, .ref (q 0)), (2, .int (nI ((zFw a 0).2))), (3, .int (iZ ((zFw a 0).1))), (4, .int (nI (zPop (zFw a 0).2 12))), (5, .int (nI (aSold a))), (6, .int (nI (zSum (fun b => if (zFw a 0).2.testBit b = true then zPr a b else 0) (zNb a)))), (7, .int (iZ (zSi (aPaid a) (zNd a)))), (8, .int (iZ (zSi (aProf a) (zNd a)))), (9, .int (nI (zPop (aSold a) (zNf a))))]) (by rw [show f = zNf a by omega]) ?_
              refine zW.wid (k := 25) (n := 150) (by omega) (by omega) ?_
              refine z_bipush C (nI 9) dX3_isSame_635 (by decide) ?_
              refine z_newaI C (C.w 4 rfl) (n := 9) (by omega) (by dsimp only; omega) (by dsimp only; omega) dX3_isSame_637 (fun x637 => ?_)
              refine zW.eqw (ws2 := wB g q a (zG0 a) bs wb pd gw ++ (wS g p a sm3 ++ [(x637, .inl (zI g, 9, .inl (fun _ => nI 0)))])) (List.append_assoc _ _ _) ?_
              refine z_dup C dX3_isSame_639 rfl ?_
              refine z_iconst C (nI 0) dX3_isSame_640 (by decide) ?_
              refine z_aload_n C dX3_isSame_641 0 rfl ?_
              refine z_get C inX3_isSame_X3 (20 + 0) (zapp_B (zapp_l wS_o)) rfl 0 (by decide) (C.w 6 rfl) rfl dX3_isSame_642 ?_
              refine z_alenI C (20 + 1) (zapp_B (zapp_l wS_rs)) dX3_isSame_645 ?_
              refine z_iastN C (20 + (wS g p a sm3).length) (zapp_B zapp_e) (by omega) (by decide) dX3_isSame_646 (zset_B zapp_set) ?_
              refine z_dup C dX3_isSame_647 rfl ?_
              refine z_iconst C (nI 1) dX3_isSame_648 (by decide) ?_
              refine z_aload_n C dX3_isSame_649 0 rfl ?_
              refine z_get C inX3_isSame_X3 (20 + 0) (zapp_B (zapp_l wS_o)) rfl 1 (by decide) (C.w 5 rfl) rfl dX3_isSame_650 ?_
              refine z_alenZ C (20 + 2) (zapp_B (zapp_l wS_in)) dX3_isSame_653 ?_
              refine z_iastN C (20 + (wS g p a sm3).length) (zapp_B zapp_e) (by omega) (by decide) dX3_isSame_654 (zset_B zapp_set) ?_
              refine z_dup C dX3_isSame_655 rfl ?_
              refine z_iconst C (nI 2) dX3_isSame_656 (by decide) ?_
              refine z_aload_n C dX3_isSame_657 0 rfl ?_
              refine z_get C inX3_isSame_X3 (20 + 0) (zapp_B (zapp_l wS_o)) rfl 2 (by decide) (C.w 3 rfl) rfl dX3_isSame_658 ?_
              refine z_alenR C (20 + 3) (zapp_B (zapp_l wS_bi)) dX3_isSame_661 ?_
              refine z_iastN C (20 + (wS g p a sm3).length) (zapp_B zapp_e) (by omega) (by decide) dX3_isSame_662 (zset_B zapp_set) ?_
              refine z_dup C dX3_isSame_663 rfl ?_
              refine z_iconst C (nI 3) dX3_isSame_664 (by decide) ?_
              refine z_iload_n C dX3_isSame_665 3 rfl ?_
              refine z_iastN C (20 + (wS g p a sm3).length) (zapp_B zapp_e) (by omega) (by decide) dX3_isSame_666 (zset_B zapp_set) ?_
              refine z_dup C dX3_isSame_667 rfl ?_
              refine z_iconst C (nI 4) dX3_isSame_668 (by decide) ?_
              refine z_iload C dX3_isSame_669 4 rfl ?_
              refine z_iastN C (20 + (wS g p a sm3).length) (zapp_B zapp_e) (by omega) (by decide) dX3_isSame_671 (zset_B zapp_set) ?_
              refine z_dup C dX3_isSame_672 rfl ?_
              refine z_iconst C (nI 5) dX3_isSame_673 (by decide) ?_
              refine z_iload C dX3_isSame_674 9 rfl ?_
              refine z_iastN C (20 + (wS g p a sm3).length) (zapp_B zapp_e) (by omega) (by decide) dX3_isSame_676 (zset_B zapp_set) ?_
              refine z_dup C dX3_isSame_677 rfl ?_
              refine z_bipush C (nI 6) dX3_isSame_678 (by decide) ?_
              refine z_iload C dX3_isSame_680 7 rfl ?_
              refine z_iastN C (20 + (wS g p a sm3).length) (zapp_B zapp_e) (by omega) (by decide) dX3_isSame_682 (zset_B zapp_set) ?_
              refine z_dup C dX3_isSame_683 rfl ?_
              refine z_bipush C (nI 7) dX3_isSame_684 (by decide) ?_
              refine z_iload C dX3_isSame_686 8 rfl ?_
              refine z_iastN C (20 + (wS g p a sm3).length) (zapp_B zapp_e) (by omega) (by decide) dX3_isSame_688 (zset_B zapp_set) ?_
              refine z_dup C dX3_isSame_689 rfl ?_
              refine z_bipush C (nI 8) dX3_isSame_690 (by decide) ?_
              refine z_iload C dX3_isSame_692 6 rfl ?_
              refine z_iastN C (20 + (wS g p a sm3).length) (zapp_B zapp_e) (by omega) (by decide) dX3_isSame_694 (zset_B zapp_set) ?_
              refine zW.eqw (congrArg (fun f9 => wB g q a (zG0 a) bs wb pd gw ++ (wS g p a sm3 ++ [(x637, .inl (zI g, 9, .inl f9))])) (show upd (upd (upd (upd (upd (upd (upd (upd (upd (fun _ => nI 0) 0 (nI (zNf a))) 1 (nI (zNd a))) 2 (nI (zNb a))) 3 (iZ ((zFw a 0).1))) 4 (nI (zPop (zFw a 0).2 12))) 5 (nI (zPop (aSold a) (zNf a)))) 6 (iZ (zSi (aPaid a) (zNd a)))) 7 (iZ (zSi (aProf a) (zNd a)))) 8 (nI (zSum (fun b => if (zFw a 0).2.testBit b = true then zPr a b else 0) (zNb a))) = zRw 9 (aCount a) from zRw9_of rfl rfl rfl rfl rfl (by rw [aSold_pop ha]; rfl) (by rw [← aPaid_all ha]; rfl) rfl rfl)) ?_
              refine zW.eqw (ws2 := wB g q a (zG0 a) bs wb pd gw ++ (wS g p a sm3 ++ [(x637, .inl (zI g, 9, .inl (zRw 9 (aCount a))))])) rfl ?_
              refine z_astore C dX3_isSame_695 (by decide) [(10, .ref x637), (0, .ref (p 0)), (1, .ref (q 0)), (2, .int (nI ((zFw a 0).2))), (3, .int (iZ ((zFw a 0).1))), (4, .int (nI (zPop (zFw a 0).2 12))), (5, .int (nI (aSold a))), (6, .int (nI (zSum (fun b => if (zFw a 0).2.testBit b = true then zPr a b else 0) (zNb a)))), (7, .int (iZ (zSi (aPaid a) (zNd a)))), (8, .int (iZ (zSi (aProf a) (zNd a)))), (9, .int (nI (zPop (aSold a) (zNf a))))] rfl ?_
              refine z_iconst C (nI 0) dX3_isSame_697 (by decide) ?_
              refine z_istore C dX3_isSame_698 (by decide) [(11, .int (nI 0)), (10, .ref x637), (0, .ref (p 0)), (1, .ref (q 0)), (2, .int (nI ((zFw a 0).2))), (3, .int (iZ ((zFw a 0).1))), (4, .int (nI (zPop (zFw a 0).2 12))), (5, .int (nI (aSold a))), (6, .int (nI (zSum (fun b => if (zFw a 0).2.testBit b = true then zPr a b else 0) (zNb a)))), (7, .int (iZ (zSi (aPaid a) (zNd a)))), (8, .int (iZ (zSi (aProf a) (zNd a)))), (9, .int (nI (zPop (aSold a) (zNf a))))] rfl ?_
              refine zW.pick (lv' := [(0, .ref (p 0)), (1, .ref (q 0)), (2, .int (nI ((zFw a 0).2))), (3, .int (iZ ((zFw a 0).1))), (4, .int (nI (zPop (zFw a 0).2 12))), (5, .int (nI (aSold a))), (6, .int (nI (zSum (fun b => if (zFw a 0).2.testBit b = true then zPr a b else 0) (zNb a)))), (7, .int (iZ (zSi (aPaid a) (zNd a)))), (8, .int (iZ (zSi (aProf a) (zNd a)))), (9, .int (nI (zPop (aSold a) (zNf a)))), (10, .ref x637), (11, .int (nI 0))]) [2, 3, 4, 5, 6, 7, 8, 9, 10, 11, 1, 0] rfl ?_
              have hlp700 : ∀ (kj9 j9 : Nat), j9 + kj9 = 9 → zW g l ({ frames := 13, cells := 26, slots := 159, locals := 315 }) E (zMQ g E (zPie (bI true) (fun _ => True)) 26 159) 15 (25 + 1) (150 + 9) (wB g q a (zG0 a) bs wb pd gw ++ (wS g p a sm3 ++ [(x637, .inl (zI g, 9, .inl (zRw 9 (aCount a))))])) [(0, .ref (p 0)), (1, .ref (q 0)), (2, .int (nI ((zFw a 0).2))), (3, .int (iZ ((zFw a 0).1))), (4, .int (nI (zPop (zFw a 0).2 12))), (5, .int (nI (aSold a))), (6, .int (nI (zSum (fun b => if (zFw a 0).2.testBit b = true then zPr a b else 0) (zNb a)))), (7, .int (iZ (zSi (aPaid a) (zNd a)))), (8, .int (iZ (zSi (aProf a) (zNd a)))), (9, .int (nI (zPop (aSold a) (zNf a)))), (10, .ref x637), (11, .int (nI j9))] [] 700 := by
                intro kj9
                induction kj9 with
                | zero =>
                  intro j9 hj9k
                  refine z_iload C dX3_isSame_700 11 rfl ?_
                  refine z_bipush C (nI 9) dX3_isSame_702 (by decide) ?_
                  refine z_icmp_ge C 729 dX3_isSame_704 (by decide) (zle_NN (by omega) (by omega)) (fun c_704 => ?_) (fun h9 => absurd (by omega) h9)
                  refine z_aload_n C dX3_isSame_729 1 rfl ?_
                  refine z_callV C (zM.fl (c_X2_mean l g q a bs wb pd gw ha hs) (wS g p a sm3 ++ [(x637, .inl (zI g, 9, .inl (zRw 9 (aCount a))))])) (cwV 0 C.ts gX3_isSame_X2_mean rfl rfl rfl (by decide +kernel) ⟨Nat.le_of_ble_eq_true rfl, Nat.le_of_ble_eq_true rfl⟩) (zapp_l wB_o) rfl rfl rfl (Nat.le_of_ble_eq_true rfl) dX3_isSame_730 ⟨by dsimp only; omega, by dsimp only; omega⟩ ?_
                  rintro _ _ ⟨_, ⟨rfl, rfl⟩, rfl⟩
                  refine zW.eqst (st2 := [.double (aMean a)]) rfl ?_
                  refine z_iload C dX3_isSame_733 4 rfl ?_
                  refine z_if_ne C 742 dX3_isSame_735 (by decide) (zeq_N0 (by omega)) (fun c_735 => ?_) (fun c_735 => ?_)
                  · skip
                    refine z_iload C dX3_isSame_742 7 rfl ?_
                    refine z_i2d C dX3_isSame_744 ?_
                    refine z_iload C dX3_isSame_745 4 rfl ?_
                    refine z_i2d C dX3_isSame_747 ?_
                    refine z_ddiv C dX3_isSame_748 (zdiv_ok _ _ (fun h => c_735 ((zeq_N0 (by omega)).mp h))) ?_
                    refine z_dcmp C dX3_isSame_749 (v := Op.cmpValue (FP.dcmp (aMean a) (FP.ddiv (FP.i2d (iZ (zSi (aPaid a) (zNd a)))) (FP.i2d (nI (zPop (zFw a 0).2 12))))) .l) rfl ?_
                    refine zW.top (y := nI 0) (by have e : aMean a = FP.ddiv (FP.i2d (iZ (zSi (aPaid a) (zNd a)))) (FP.i2d (nI (zPop (zFw a 0).2 12))) := (by unfold aMean; rw [if_neg c_735, aPaid_all ha]); rw [e]; exact zcmp_self (zdiv_no _ _ (fun h => c_735 ((zeq_N0 (by omega)).mp h)))) ?_
                    refine z_if_ne C 757 dX3_isSame_750 (by decide) (zeq_N0 (by omega)) (fun h9 => absurd (by decide) h9) (fun c_750 => ?_)
                    refine z_iconst C (nI 1) dX3_isSame_753 (by decide) ?_
                    refine z_goto C 758 dX3_isSame_754 (by decide) ?_
                    exact z_zretE (b := true) C dX3_isSame_758 rfl trivial
                  · skip
                    refine z_dconst0 C dX3_isSame_738 ?_
                    refine z_goto C 749 dX3_isSame_739 (by decide) ?_
                    refine z_dcmp C dX3_isSame_749 (v := Op.cmpValue (FP.dcmp (aMean a) 0) .l) rfl ?_
                    refine zW.top (y := nI 0) (by have e : aMean a = 0 := (by unfold aMean; rw [if_pos c_735]); rw [e]; exact zcmp_self (by decide)) ?_
                    refine z_if_ne C 757 dX3_isSame_750 (by decide) (zeq_N0 (by omega)) (fun h9 => absurd (by decide) h9) (fun c_750 => ?_)
                    refine z_iconst C (nI 1) dX3_isSame_753 (by decide) ?_
                    refine z_goto C 758 dX3_isSame_754 (by decide) ?_
                    exact z_zretE (b := true) C dX3_isSame_758 rfl trivial
                | succ kj9 ih700 =>
                  intro j9 hj9k
                  refine z_iload C dX3_isSame_700 11 rfl ?_
                  refine z_bipush C (nI 9) dX3_isSame_702 (by decide) ?_
                  refine z_icmp_ge C 729 dX3_isSame_704 (by decide) (zle_NN (by omega) (by omega)) (fun h9 => absurd h9 (by omega)) (fun c_704 => ?_)
                  refine z_aload_n C dX3_isSame_707 1 rfl ?_
                  refine z_iload C dX3_isSame_708 11 rfl ?_
                  refine z_callV C (zM.fl (c_X2_count l g q a bs wb pd gw ha hs j9 (by omega)) (wS g p a sm3 ++ [(x637, .inl (zI g, 9, .inl (zRw 9 (aCount a))))])) (cwV 1 C.ts gX3_isSame_X2_count rfl rfl rfl (by decide +kernel) ⟨Nat.le_of_ble_eq_true rfl, Nat.le_of_ble_eq_true rfl⟩) (zapp_l wB_o) rfl rfl rfl (Nat.le_of_ble_eq_true rfl) dX3_isSame_710 ⟨by dsimp only; omega, by dsimp only; omega⟩ ?_
                  rintro _ _ ⟨_, ⟨rfl, rfl⟩, rfl⟩
                  refine zW.eqst (st2 := [.int (iZ (aCount a j9))]) rfl ?_
                  refine z_aload C dX3_isSame_713 10 rfl ?_
                  refine z_iload C dX3_isSame_715 11 rfl ?_
                  refine z_ialdN C (20 + (wS g p a sm3).length) (zapp_B zapp_e) (by omega) (by decide) dX3_isSame_717 (v := iZ (aCount a j9)) (zRw_at (by omega)) ?_
                  refine z_icmp_eq C 723 dX3_isSame_718 (by decide) Iff.rfl (fun c_718 => ?_) (fun h9 => absurd rfl h9)
                  refine z_iinc C dX3_isSame_723 11 (nI (j9 + 1)) rfl (nI_add j9 1) (by decide) [(11, .int (nI (j9 + 1))), (0, .ref (p 0)), (1, .ref (q 0)), (2, .int (nI ((zFw a 0).2))), (3, .int (iZ ((zFw a 0).1))), (4, .int (nI (zPop (zFw a 0).2 12))), (5, .int (nI (aSold a))), (6, .int (nI (zSum (fun b => if (zFw a 0).2.testBit b = true then zPr a b else 0) (zNb a)))), (7, .int (iZ (zSi (aPaid a) (zNd a)))), (8, .int (iZ (zSi (aProf a) (zNd a)))), (9, .int (nI (zPop (aSold a) (zNf a)))), (10, .ref x637)] rfl ?_
                  refine z_goto C 700 dX3_isSame_726 (by decide) ?_
                  refine zW.pick (lv' := [(0, .ref (p 0)), (1, .ref (q 0)), (2, .int (nI ((zFw a 0).2))), (3, .int (iZ ((zFw a 0).1))), (4, .int (nI (zPop (zFw a 0).2 12))), (5, .int (nI (aSold a))), (6, .int (nI (zSum (fun b => if (zFw a 0).2.testBit b = true then zPr a b else 0) (zNb a)))), (7, .int (iZ (zSi (aPaid a) (zNd a)))), (8, .int (iZ (zSi (aProf a) (zNd a)))), (9, .int (nI (zPop (aSold a) (zNf a)))), (10, .ref x637), (11, .int (nI (j9 + 1)))]) [1, 2, 3, 4, 5, 6, 7, 8, 9, 10, 11, 0] rfl ?_
                  exact ih700 (j9 + 1) (by omega)
              exact hlp700 (9) 0 (by omega)
            | succ kf ih438 =>
              intro f sm3 hfk
              have hsl : aSold a / 2 ^ f ≤ aSold a := Nat.div_le_self _ _
              have hsb := aSold_lt ha
              refine z_iload C dX3_isSame_438 10 rfl ?_
              refine z_aload_n C dX3_isSame_440 0 rfl ?_
              refine z_get C inX3_isSame_X3 (20 + 0) (zapp_B wS_o) rfl 0 (by decide) (C.w 6 rfl) rfl dX3_isSame_441 ?_
              refine z_alenI C (20 + 1) (zapp_B wS_rs) dX3_isSame_444 ?_
              refine z_icmp_ge C 635 dX3_isSame_445 (by decide) (zle_NN (by omega) (by omega)) (fun h9 => absurd h9 (by omega)) (fun c_445 => ?_)
              refine z_iconst C (iZ (-1)) dX3_isSame_448 (by decide) ?_
              refine z_istore C dX3_isSame_449 (by decide) [(11, .int (iZ (-1))), (0, .ref (p 0)), (1, .ref (q 0)), (2, .int (nI ((zFw a 0).2))), (3, .int (iZ ((zFw a 0).1))), (4, .int (nI (zPop (zFw a 0).2 12))), (5, .int (nI (aSold a))), (6, .int (nI (zSum (fun b => if (zFw a 0).2.testBit b = true then zPr a b else 0) (zNb a)))), (7, .int (iZ (zSi (aPaid a) (zNd a)))), (8, .int (iZ (zSi (aProf a) (zNd a)))), (9, .int (nI (zPop (aSold a) f))), (10, .int (nI f))] rfl ?_
              refine z_iconst C (nI 0) dX3_isSame_451 (by decide) ?_
              refine z_istore C dX3_isSame_452 (by decide) [(12, .int (nI 0)), (11, .int (iZ (-1))), (0, .ref (p 0)), (1, .ref (q 0)), (2, .int (nI ((zFw a 0).2))), (3, .int (iZ ((zFw a 0).1))), (4, .int (nI (zPop (zFw a 0).2 12))), (5, .int (nI (aSold a))), (6, .int (nI (zSum (fun b => if (zFw a 0).2.testBit b = true then zPr a b else 0) (zNb a)))), (7, .int (iZ (zSi (aPaid a) (zNd a)))), (8, .int (iZ (zSi (aProf a) (zNd a)))), (9, .int (nI (zPop (aSold a) f))), (10, .int (nI f))] rfl ?_
              refine z_iconst C (nI 0) dX3_isSame_454 (by decide) ?_
              refine z_istore C dX3_isSame_455 (by decide) [(13, .int (nI 0)), (12, .int (nI 0)), (11, .int (iZ (-1))), (0, .ref (p 0)), (1, .ref (q 0)), (2, .int (nI ((zFw a 0).2))), (3, .int (iZ ((zFw a 0).1))), (4, .int (nI (zPop (zFw a 0).2 12))), (5, .int (nI (aSold a))), (6, .int (nI (zSum (fun b => if (zFw a 0).2.testBit b = true then zPr a b else 0) (zNb a)))), (7, .int (iZ (zSi (aPaid a) (zNd a)))), (8, .int (iZ (zSi (aProf a) (zNd a)))), (9, .int (nI (zPop (aSold a) f))), (10, .int (nI f))] rfl ?_
              refine zW.pick (lv' := [(0, .ref (p 0)), (1, .ref (q 0)), (2, .int (nI ((zFw a 0).2))), (3, .int (iZ ((zFw a 0).1))), (4, .int (nI (zPop (zFw a 0).2 12))), (5, .int (nI (aSold a))), (6, .int (nI (zSum (fun b => if (zFw a 0).2.testBit b = true then zPr a b else 0) (zNb a)))), (7, .int (iZ (zSi (aPaid a) (zNd a)))), (8, .int (iZ (zSi (aProf a) (zNd a)))), (9, .int (nI (zPop (aSold a) f))), (10, .int (nI f)), (11, .int (iZ (-1))), (12, .int (nI 0)), (13, .int (nI 0))]) [3, 4, 5, 6, 7, 8, 9, 10, 11, 12, 13, 2, 1, 0] rfl ?_
              have hlp457 : ∀ (kj j : Nat), j + kj = zNb a → zW g l ({ frames := 13, cells := 26, slots := 159, locals := 315 }) E (zMQ g E (zPie (bI true) (fun _ => True)) 26 159) 15 (17 + f) (126 + 3 * f) (wB g q a (zG0 a) bs wb pd gw ++ (wS g p a sm3)) [(0, .ref (p 0)), (1, .ref (q 0)), (2, .int (nI ((zFw a 0).2))), (3, .int (iZ ((zFw a 0).1))), (4, .int (nI (zPop (zFw a 0).2 12))), (5, .int (nI (aSold a))), (6, .int (nI (zSum (fun b => if (zFw a 0).2.testBit b = true then zPr a b else 0) (zNb a)))), (7, .int (iZ (zSi (aPaid a) (zNd a)))), (8, .int (iZ (zSi (aProf a) (zNd a)))), (9, .int (nI (zPop (aSold a) f))), (10, .int (nI f)), (11, .int (iZ (zWl a f j))), (12, .int (nI (zCnt (fun b => zCn a (zOu a) b && (zBu a b).testBit f) j))), (13, .int (nI j))] [] 457 := by
                intro kj
                induction kj with
                | zero =>
                  intro j hjk
                  refine z_iload C dX3_isSame_457 13 rfl ?_
                  refine z_aload_n C dX3_isSame_459 0 rfl ?_
                  refine z_get C inX3_isSame_X3 (20 + 0) (zapp_B wS_o) rfl 2 (by decide) (C.w 3 rfl) rfl dX3_isSame_460 ?_
                  refine z_alenR C (20 + 3) (zapp_B wS_bi) dX3_isSame_463 ?_
                  refine z_icmp_ge C 533 dX3_isSame_464 (by decide) (zle_NN (by omega) (by omega)) (fun c_464 => ?_) (fun h9 => absurd (by omega) h9)
                  refine zW.pick (lv' := [(0, .ref (p 0)), (1, .ref (q 0)), (2, .int (nI ((zFw a 0).2))), (3, .int (iZ ((zFw a 0).1))), (4, .int (nI (zPop (zFw a 0).2 12))), (5, .int (nI (aSold a))), (6, .int (nI (zSum (fun b => if (zFw a 0).2.testBit b = true then zPr a b else 0) (zNb a)))), (7, .int (iZ (zSi (aPaid a) (zNd a)))), (8, .int (iZ (zSi (aProf a) (zNd a)))), (9, .int (nI (zPop (aSold a) f))), (10, .int (nI f)), (11, .int (iZ (zWl a f j))), (12, .int (nI (zCnt (fun b => zCn a (zOu a) b && (zBu a b).testBit f) j)))]) [0, 1, 2, 3, 4, 5, 6, 7, 8, 9, 10, 11, 12] rfl ?_
                  refine zW.lve (lv' := [(0, .ref (p 0)), (1, .ref (q 0)), (2, .int (nI ((zFw a 0).2))), (3, .int (iZ ((zFw a 0).1))), (4, .int (nI (zPop (zFw a 0).2 12))), (5, .int (nI (aSold a))), (6, .int (nI (zSum (fun b => if (zFw a 0).2.testBit b = true then zPr a b else 0) (zNb a)))), (7, .int (iZ (zSi (aPaid a) (zNd a)))), (8, .int (iZ (zSi (aProf a) (zNd a)))), (9, .int (nI (zPop (aSold a) f))), (10, .int (nI f)), (11, .int (iZ (aLand a f 1))), (12, .int (nI (zCnt (fun b => zCn a (zOu a) b && (zBu a b).testBit f) (zNb a))))]) (by rw [show j = zNb a by omega, zWl_land ha f]) ?_
                  refine z_iload C dX3_isSame_533 9 rfl ?_
                  refine z_iload C dX3_isSame_535 5 rfl ?_
                  refine z_iload C dX3_isSame_537 10 rfl ?_
                  refine z_ishr C dX3_isSame_539 (v := nI ((aSold a) / 2 ^ f)) (zshr_NN (by omega) (by omega)) ?_
                  refine z_iconst C (nI 2) dX3_isSame_540 (by decide) ?_
                  refine z_irem C dX3_isSame_541 (by decide) (v := nI (if (aSold a).testBit f = true then 1 else 0)) ((pk_rem (by omega) (by decide) (by decide)).trans (by rw [zdivmod_bit])) ?_
                  refine z_iadd C dX3_isSame_542 (v := nI ((zPop (aSold a) f) + (if (aSold a).testBit f = true then 1 else 0))) (nI_add (zPop (aSold a) f) (if (aSold a).testBit f = true then 1 else 0)) ?_
                  refine z_istore C dX3_isSame_543 (by decide) [(9, .int (nI ((zPop (aSold a) f) + (if (aSold a).testBit f = true then 1 else 0)))), (0, .ref (p 0)), (1, .ref (q 0)), (2, .int (nI ((zFw a 0).2))), (3, .int (iZ ((zFw a 0).1))), (4, .int (nI (zPop (zFw a 0).2 12))), (5, .int (nI (aSold a))), (6, .int (nI (zSum (fun b => if (zFw a 0).2.testBit b = true then zPr a b else 0) (zNb a)))), (7, .int (iZ (zSi (aPaid a) (zNd a)))), (8, .int (iZ (zSi (aProf a) (zNd a)))), (10, .int (nI f)), (11, .int (iZ (aLand a f 1))), (12, .int (nI (zCnt (fun b => zCn a (zOu a) b && (zBu a b).testBit f) (zNb a))))] rfl ?_
                  refine z_aload_n C dX3_isSame_545 2 rfl ?_
                  refine z_iload C dX3_isSame_546 10 rfl ?_
                  refine z_iconst C (nI 0) dX3_isSame_548 (by decide) ?_
                  refine z_callV C (zM.fl (c_X2_land l g q a bs wb pd gw ha hs f 0 (by omega) (by omega)) (wS g p a sm3)) (cwV 2 C.ts gX3_isSame_X2_land rfl rfl rfl (by decide +kernel) ⟨Nat.le_of_ble_eq_true rfl, Nat.le_of_ble_eq_true rfl⟩) (zapp_l wB_o) rfl rfl rfl (Nat.le_of_ble_eq_true rfl) dX3_isSame_549 ⟨by dsimp only; omega, by dsimp only; omega⟩ ?_
                  rintro _ _ ⟨_, ⟨rfl, rfl⟩, rfl⟩
                  refine zW.eqst (st2 := [.int (iZ (aLand a f 0))]) rfl ?_
                  refine z_aload_n C dX3_isSame_552 1 rfl ?_
                  refine z_get C inX3_isSame_X3 (20 + 0) (zapp_B wS_o) rfl 0 (by decide) (C.w 6 rfl) rfl dX3_isSame_553 ?_
                  refine z_iload C dX3_isSame_556 10 rfl ?_
                  refine z_ialdN C (20 + 1) (zapp_B wS_rs) (by omega) (by omega) dX3_isSame_558 (v := nI (zRf a f)) rfl ?_
                  have f_558b := zRf_le ha f
                  refine z_icmp_ne C 586 dX3_isSame_559 (by decide) Iff.rfl (fun h9 => absurd (by show iZ ((zRs a f : Nat) : Int) = nI (zRf a f); unfold zRf; rw [if_pos (by omega)]; rfl) h9) (fun c_559 => ?_)
                  refine z_aload_n C dX3_isSame_562 2 rfl ?_
                  refine z_iload C dX3_isSame_563 10 rfl ?_
                  refine z_iconst C (nI 1) dX3_isSame_565 (by decide) ?_
                  refine z_callV C (zM.fl (c_X2_land l g q a bs wb pd gw ha hs f 1 (by omega) (by omega)) (wS g p a sm3)) (cwV 2 C.ts gX3_isSame_X2_land rfl rfl rfl (by decide +kernel) ⟨Nat.le_of_ble_eq_true rfl, Nat.le_of_ble_eq_true rfl⟩) (zapp_l wB_o) rfl rfl rfl (Nat.le_of_ble_eq_true rfl) dX3_isSame_566 ⟨by dsimp only; omega, by dsimp only; omega⟩ ?_
                  rintro _ _ ⟨_, ⟨rfl, rfl⟩, rfl⟩
                  refine zW.eqst (st2 := [.int (iZ (aLand a f 1))]) rfl ?_
                  refine z_iload C dX3_isSame_569 11 rfl ?_
                  refine z_icmp_ne C 586 dX3_isSame_571 (by decide) Iff.rfl (fun h9 => absurd rfl h9) (fun c_571 => ?_)
                  refine z_aload_n C dX3_isSame_574 2 rfl ?_
                  refine z_iload C dX3_isSame_575 10 rfl ?_
                  refine z_iconst C (nI 2) dX3_isSame_577 (by decide) ?_
                  refine z_callV C (zM.fl (c_X2_land l g q a bs wb pd gw ha hs f 2 (by omega) (by omega)) (wS g p a sm3)) (cwV 2 C.ts gX3_isSame_X2_land rfl rfl rfl (by decide +kernel) ⟨Nat.le_of_ble_eq_true rfl, Nat.le_of_ble_eq_true rfl⟩) (zapp_l wB_o) rfl rfl rfl (Nat.le_of_ble_eq_true rfl) dX3_isSame_578 ⟨by dsimp only; omega, by dsimp only; omega⟩ ?_
                  rintro _ _ ⟨_, ⟨rfl, rfl⟩, rfl⟩
                  refine zW.eqst (st2 := [.int (iZ (aLand a f 2))]) rfl ?_
                  refine z_iload C dX3_isSame_581 12 rfl ?_
                  refine z_icmp_eq C 588 dX3_isSame_583 (by decide) Iff.rfl (fun c_583 => ?_) (fun h9 => absurd rfl h9)
                  refine z_aload_n C dX3_isSame_588 1 rfl ?_
                  refine z_iload C dX3_isSame_589 10 rfl ?_
                  refine z_callV C (zM.fh (c_X3_alone l g p a sm3 ha f (by omega)) (wB g q a (zG0 a) bs wb pd gw)) (cwV 1 C.ts gX3_isSame_X3_alone rfl rfl rfl (by decide +kernel) ⟨Nat.le_of_ble_eq_true rfl, Nat.le_of_ble_eq_true rfl⟩) (zapp_B wS_o) rfl rfl rfl (Nat.le_of_ble_eq_true rfl) dX3_isSame_591 ⟨by dsimp only; omega, by dsimp only; omega⟩ ?_
                  rintro _ _ ⟨_, ⟨xa591, rfl, rfl⟩, rfl⟩
                  refine zW.eqst (st2 := [.ref xa591]) rfl ?_
                  refine z_astore C dX3_isSame_594 (by decide) [(13, .ref xa591), (9, .int (nI ((zPop (aSold a) f) + (if (aSold a).testBit f = true then 1 else 0)))), (0, .ref (p 0)), (1, .ref (q 0)), (2, .int (nI ((zFw a 0).2))), (3, .int (iZ ((zFw a 0).1))), (4, .int (nI (zPop (zFw a 0).2 12))), (5, .int (nI (aSold a))), (6, .int (nI (zSum (fun b => if (zFw a 0).2.testBit b = true then zPr a b else 0) (zNb a)))), (7, .int (iZ (zSi (aPaid a) (zNd a)))), (8, .int (iZ (zSi (aProf a) (zNd a)))), (10, .int (nI f)), (11, .int (iZ (aLand a f 1))), (12, .int (nI (zCnt (fun b => zCn a (zOu a) b && (zBu a b).testBit f) (zNb a))))] rfl ?_
                  refine zW.pick (lv' := [(0, .ref (p 0)), (1, .ref (q 0)), (2, .int (nI ((zFw a 0).2))), (3, .int (iZ ((zFw a 0).1))), (4, .int (nI (zPop (zFw a 0).2 12))), (5, .int (nI (aSold a))), (6, .int (nI (zSum (fun b => if (zFw a 0).2.testBit b = true then zPr a b else 0) (zNb a)))), (7, .int (iZ (zSi (aPaid a) (zNd a)))), (8, .int (iZ (zSi (aProf a) (zNd a)))), (9, .int (nI ((zPop (aSold a) f) + (if (aSold a).testBit f = true then 1 else 0)))), (10, .int (nI f)), (13, .ref xa591)]) [2, 3, 4, 5, 6, 7, 8, 9, 10, 1, 11, 0] rfl ?_
                  refine zW.lve (lv' := [(0, .ref (p 0)), (1, .ref (q 0)), (2, .int (nI ((zFw a 0).2))), (3, .int (iZ ((zFw a 0).1))), (4, .int (nI (zPop (zFw a 0).2 12))), (5, .int (nI (aSold a))), (6, .int (nI (zSum (fun b => if (zFw a 0).2.testBit b = true then zPr a b else 0) (zNb a)))), (7, .int (iZ (zSi (aPaid a) (zNd a)))), (8, .int (iZ (zSi (aProf a) (zNd a)))), (9, .int (nI (zPop (aSold a) (f + 1)))), (10, .int (nI f)), (13, .ref xa591)]) (rfl) ?_
                  refine z_iconst C (nI 0) dX3_isSame_596 (by decide) ?_
                  refine z_istore C dX3_isSame_597 (by decide) [(14, .int (nI 0)), (0, .ref (p 0)), (1, .ref (q 0)), (2, .int (nI ((zFw a 0).2))), (3, .int (iZ ((zFw a 0).1))), (4, .int (nI (zPop (zFw a 0).2 12))), (5, .int (nI (aSold a))), (6, .int (nI (zSum (fun b => if (zFw a 0).2.testBit b = true then zPr a b else 0) (zNb a)))), (7, .int (iZ (zSi (aPaid a) (zNd a)))), (8, .int (iZ (zSi (aProf a) (zNd a)))), (9, .int (nI (zPop (aSold a) (f + 1)))), (10, .int (nI f)), (13, .ref xa591)] rfl ?_
                  refine zW.pick (lv' := [(0, .ref (p 0)), (1, .ref (q 0)), (2, .int (nI ((zFw a 0).2))), (3, .int (iZ ((zFw a 0).1))), (4, .int (nI (zPop (zFw a 0).2 12))), (5, .int (nI (aSold a))), (6, .int (nI (zSum (fun b => if (zFw a 0).2.testBit b = true then zPr a b else 0) (zNb a)))), (7, .int (iZ (zSi (aPaid a) (zNd a)))), (8, .int (iZ (zSi (aProf a) (zNd a)))), (9, .int (nI (zPop (aSold a) (f + 1)))), (10, .int (nI f)), (13, .ref xa591), (14, .int (nI 0))]) [1, 2, 3, 4, 5, 6, 7, 8, 9, 10, 11, 12, 0] rfl ?_
                  have hlp599 : ∀ (kj3 j3 : Nat), j3 + kj3 = 3 → zW g l ({ frames := 13, cells := 26, slots := 159, locals := 315 }) E (zMQ g E (zPie (bI true) (fun _ => True)) 26 159) 15 (17 + f + 1) (126 + 3 * f + 3) (wB g q a (zG0 a) bs wb pd gw ++ (wS g p a sm3 ++ [(xa591, .inl (zI g, 3, .inl (zAl a f)))])) [(0, .ref (p 0)), (1, .ref (q 0)), (2, .int (nI ((zFw a 0).2))), (3, .int (iZ ((zFw a 0).1))), (4, .int (nI (zPop (zFw a 0).2 12))), (5, .int (nI (aSold a))), (6, .int (nI (zSum (fun b => if (zFw a 0).2.testBit b = true then zPr a b else 0) (zNb a)))), (7, .int (iZ (zSi (aPaid a) (zNd a)))), (8, .int (iZ (zSi (aProf a) (zNd a)))), (9, .int (nI (zPop (aSold a) (f + 1)))), (10, .int (nI f)), (13, .ref xa591), (14, .int (nI j3))] [] 599 := by
                    intro kj3
                    induction kj3 with
                    | zero =>
                      intro j3 hj3k
                      refine z_iload C dX3_isSame_599 12 rfl ?_
                      refine z_iconst C (nI 3) dX3_isSame_601 (by decide) ?_
                      refine z_icmp_ge C 629 dX3_isSame_602 (by decide) (zle_NN (by omega) (by omega)) (fun c_602 => ?_) (fun h9 => absurd (by omega) h9)
                      refine zW.fewer [] (wB g q a (zG0 a) bs wb pd gw ++ (wS g p a sm3)) [(xa591, .inl (zI g, 3, .inl (zAl a f)))] (List.append_assoc _ _ _).symm ?_
                      refine z_iinc C dX3_isSame_629 10 (nI (f + 1)) rfl (nI_add f 1) (by decide) [(10, .int (nI (f + 1))), (0, .ref (p 0)), (1, .ref (q 0)), (2, .int (nI ((zFw a 0).2))), (3, .int (iZ ((zFw a 0).1))), (4, .int (nI (zPop (zFw a 0).2 12))), (5, .int (nI (aSold a))), (6, .int (nI (zSum (fun b => if (zFw a 0).2.testBit b = true then zPr a b else 0) (zNb a)))), (7, .int (iZ (zSi (aPaid a) (zNd a)))), (8, .int (iZ (zSi (aProf a) (zNd a)))), (9, .int (nI (zPop (aSold a) (f + 1)))), (13, .ref xa591), (14, .int (nI j3))] rfl ?_
                      refine z_goto C 438 dX3_isSame_632 (by decide) ?_
                      refine zW.pick (lv' := [(0, .ref (p 0)), (1, .ref (q 0)), (2, .int (nI ((zFw a 0).2))), (3, .int (iZ ((zFw a 0).1))), (4, .int (nI (zPop (zFw a 0).2 12))), (5, .int (nI (aSold a))), (6, .int (nI (zSum (fun b => if (zFw a 0).2.testBit b = true then zPr a b else 0) (zNb a)))), (7, .int (iZ (zSi (aPaid a) (zNd a)))), (8, .int (iZ (zSi (aProf a) (zNd a)))), (9, .int (nI (zPop (aSold a) (f + 1)))), (10, .int (nI (f + 1)))]) [1, 2, 3, 4, 5, 6, 7, 8, 9, 10, 0] rfl ?_
                      refine zW.wid (k := 17 + (f + 1)) (n := 126 + 3 * (f + 1)) (by omega) (by omega) ?_
                      exact ih438 (f + 1) sm3 (by omega)
                    | succ kj3 ih599 =>
                      intro j3 hj3k
                      refine z_iload C dX3_isSame_599 12 rfl ?_
                      refine z_iconst C (nI 3) dX3_isSame_601 (by decide) ?_
                      refine z_icmp_ge C 629 dX3_isSame_602 (by decide) (zle_NN (by omega) (by omega)) (fun h9 => absurd h9 (by omega)) (fun c_602 => ?_)
                      refine z_aload_n C dX3_isSame_605 1 rfl ?_
                      refine z_iload C dX3_isSame_606 10 rfl ?_
                      refine z_iload C dX3_isSame_608 12 rfl ?_
                      refine z_callV C (zM.fl (c_X2_alone l g q a bs wb pd gw ha hs f j3 (by omega) (by omega)) (wS g p a sm3 ++ [(xa591, .inl (zI g, 3, .inl (zAl a f)))])) (cwV 2 C.ts gX3_isSame_X2_alone rfl rfl rfl (by decide +kernel) ⟨Nat.le_of_ble_eq_true rfl, Nat.le_of_ble_eq_true rfl⟩) (zapp_l wB_o) rfl rfl rfl (Nat.le_of_ble_eq_true rfl) dX3_isSame_610 ⟨by dsimp only; omega, by dsimp only; omega⟩ ?_
                      rintro _ _ ⟨_, ⟨rfl, rfl⟩, rfl⟩
                      refine zW.eqst (st2 := [.int (iZ (aAlone a f j3))]) rfl ?_
                      refine z_aload C dX3_isSame_613 11 rfl ?_
                      refine z_iload C dX3_isSame_615 12 rfl ?_
                      refine z_ialdN C (20 + (wS g p a sm3).length) (zapp_B zapp_e) (by omega) (by decide) dX3_isSame_617 (v := iZ (aAlone a f j3)) (zAl_at (by omega)) ?_
                      refine z_icmp_eq C 623 dX3_isSame_618 (by decide) Iff.rfl (fun c_618 => ?_) (fun h9 => absurd rfl h9)
                      refine z_iinc C dX3_isSame_623 12 (nI (j3 + 1)) rfl (nI_add j3 1) (by decide) [(14, .int (nI (j3 + 1))), (0, .ref (p 0)), (1, .ref (q 0)), (2, .int (nI ((zFw a 0).2))), (3, .int (iZ ((zFw a 0).1))), (4, .int (nI (zPop (zFw a 0).2 12))), (5, .int (nI (aSold a))), (6, .int (nI (zSum (fun b => if (zFw a 0).2.testBit b = true then zPr a b else 0) (zNb a)))), (7, .int (iZ (zSi (aPaid a) (zNd a)))), (8, .int (iZ (zSi (aProf a) (zNd a)))), (9, .int (nI (zPop (aSold a) (f + 1)))), (10, .int (nI f)), (13, .ref xa591)] rfl ?_
                      refine z_goto C 599 dX3_isSame_626 (by decide) ?_
                      refine zW.pick (lv' := [(0, .ref (p 0)), (1, .ref (q 0)), (2, .int (nI ((zFw a 0).2))), (3, .int (iZ ((zFw a 0).1))), (4, .int (nI (zPop (zFw a 0).2 12))), (5, .int (nI (aSold a))), (6, .int (nI (zSum (fun b => if (zFw a 0).2.testBit b = true then zPr a b else 0) (zNb a)))), (7, .int (iZ (zSi (aPaid a) (zNd a)))), (8, .int (iZ (zSi (aProf a) (zNd a)))), (9, .int (nI (zPop (aSold a) (f + 1)))), (10, .int (nI f)), (13, .ref xa591), (14, .int (nI (j3 + 1)))]) [1, 2, 3, 4, 5, 6, 7, 8, 9, 10, 11, 12, 0] rfl ?_
                      exact ih599 (j3 + 1) (by omega)
                  exact hlp599 (3) 0 (by omega)
                | succ kj ih457 =>
                  intro j hjk
                  have hdl : (zFw a 0).2 / 2 ^ j ≤ (zFw a 0).2 := Nat.div_le_self _ _
                  have hbl : zBu a j / 2 ^ f ≤ zBu a j := Nat.div_le_self _ _
                  have hwb := zWl_bnd ha f (n := j) (by omega)
                  have hcl := zCnt_le (fun b => zCn a (zOu a) b && (zBu a b).testBit f) j
                  refine z_iload C dX3_isSame_457 13 rfl ?_
                  refine z_aload_n C dX3_isSame_459 0 rfl ?_
                  refine z_get C inX3_isSame_X3 (20 + 0) (zapp_B wS_o) rfl 2 (by decide) (C.w 3 rfl) rfl dX3_isSame_460 ?_
                  refine z_alenR C (20 + 3) (zapp_B wS_bi) dX3_isSame_463 ?_
                  refine z_icmp_ge C 533 dX3_isSame_464 (by decide) (zle_NN (by omega) (by omega)) (fun h9 => absurd h9 (by omega)) (fun c_464 => ?_)
                  refine z_aload_n C dX3_isSame_467 0 rfl ?_
                  refine z_get C inX3_isSame_X3 (20 + 0) (zapp_B wS_o) rfl 2 (by decide) (C.w 3 rfl) rfl dX3_isSame_468 ?_
                  refine z_iload C dX3_isSame_471 13 rfl ?_
                  refine z_aald C (20 + 3) (zapp_B wS_bi) (by omega) (by omega) dX3_isSame_473 (zPt_at (by omega)) ?_
                  refine z_iconst C (nI 1) dX3_isSame_474 (by decide) ?_
                  refine z_ialdN C (20 + (4 + j)) (zapp_B (wS_row (b := j) (by omega))) (by omega) (by decide) dX3_isSame_475 (v := nI (zBu a j)) rfl ?_
                  have f_475b := ha.bu8 (b := j) (by omega)
                  refine z_iload C dX3_isSame_476 10 rfl ?_
                  refine z_ishr C dX3_isSame_478 (v := nI ((zBu a j) / 2 ^ f)) (zshr_NN (by omega) (by omega)) ?_
                  refine z_iconst C (nI 2) dX3_isSame_479 (by decide) ?_
                  refine z_irem C dX3_isSame_480 (by decide) (v := bI ((zBu a j).testBit f)) (zrem_bit (by omega)) ?_
                  refine z_if_ne C 487 dX3_isSame_481 (by decide) (zeq_B0 _) (fun c_481 => ?_) (fun c_481 => ?_)
                  · skip
                    refine z_iload_n C dX3_isSame_487 2 rfl ?_
                    refine z_iload C dX3_isSame_488 13 rfl ?_
                    refine z_ishr C dX3_isSame_490 (v := nI (((zFw a 0).2) / 2 ^ j)) (zshr_NN (by omega) (by omega)) ?_
                    refine z_iconst C (nI 2) dX3_isSame_491 (by decide) ?_
                    refine z_irem C dX3_isSame_492 (by decide) (v := bI ((zFw a 0).2.testBit j)) (zrem_bit (by omega)) ?_
                    refine z_iconst C (nI 1) dX3_isSame_493 (by decide) ?_
                    refine z_icmp_ne C 508 dX3_isSame_494 (by decide) (zeq_B1 _) (fun c_494 => ?_) (fun c_494 => ?_)
                    · skip
                      refine z_iload C dX3_isSame_508 12 rfl ?_
                      refine z_aload_n C dX3_isSame_510 0 rfl ?_
                      refine z_iload C dX3_isSame_511 13 rfl ?_
                      refine z_callV C (zM.fh (c_X3_counts l g p a sm3 ha j (by omega)) (wB g q a (zG0 a) bs wb pd gw)) (cwV 1 C.ts gX3_isSame_X3_counts rfl rfl rfl (by decide +kernel) ⟨Nat.le_of_ble_eq_true rfl, Nat.le_of_ble_eq_true rfl⟩) (zapp_B wS_o) rfl rfl rfl (Nat.le_of_ble_eq_true rfl) dX3_isSame_513 ⟨by dsimp only; omega, by dsimp only; omega⟩ ?_
                      rintro _ _ ⟨_, ⟨rfl, rfl⟩, rfl⟩
                      refine zW.eqst (st2 := [.int (bI (zCn a (zOu a) j)), .int (nI (zCnt (fun b => zCn a (zOu a) b && (zBu a b).testBit f) j))]) rfl ?_
                      refine z_if_eq C 523 dX3_isSame_516 (by decide) (zeq_B0 _) (fun c_516 => ?_) (fun c_516 => ?_)
                      · skip
                        refine z_iconst C (nI 0) dX3_isSame_523 (by decide) ?_
                        refine z_iadd C dX3_isSame_524 (v := nI ((zCnt (fun b => zCn a (zOu a) b && (zBu a b).testBit f) j) + 0)) (nI_add (zCnt (fun b => zCn a (zOu a) b && (zBu a b).testBit f) j) 0) ?_
                        refine z_istore C dX3_isSame_525 (by decide) [(12, .int (nI ((zCnt (fun b => zCn a (zOu a) b && (zBu a b).testBit f) j) + 0))), (0, .ref (p 0)), (1, .ref (q 0)), (2, .int (nI ((zFw a 0).2))), (3, .int (iZ ((zFw a 0).1))), (4, .int (nI (zPop (zFw a 0).2 12))), (5, .int (nI (aSold a))), (6, .int (nI (zSum (fun b => if (zFw a 0).2.testBit b = true then zPr a b else 0) (zNb a)))), (7, .int (iZ (zSi (aPaid a) (zNd a)))), (8, .int (iZ (zSi (aProf a) (zNd a)))), (9, .int (nI (zPop (aSold a) f))), (10, .int (nI f)), (11, .int (iZ (zWl a f j))), (13, .int (nI j))] rfl ?_
                        refine z_iinc C dX3_isSame_527 13 (nI (j + 1)) rfl (nI_add j 1) (by decide) [(13, .int (nI (j + 1))), (12, .int (nI ((zCnt (fun b => zCn a (zOu a) b && (zBu a b).testBit f) j) + 0))), (0, .ref (p 0)), (1, .ref (q 0)), (2, .int (nI ((zFw a 0).2))), (3, .int (iZ ((zFw a 0).1))), (4, .int (nI (zPop (zFw a 0).2 12))), (5, .int (nI (aSold a))), (6, .int (nI (zSum (fun b => if (zFw a 0).2.testBit b = true then zPr a b else 0) (zNb a)))), (7, .int (iZ (zSi (aPaid a) (zNd a)))), (8, .int (iZ (zSi (aProf a) (zNd a)))), (9, .int (nI (zPop (aSold a) f))), (10, .int (nI f)), (11, .int (iZ (zWl a f j)))] rfl ?_
                        refine z_goto C 457 dX3_isSame_530 (by decide) ?_
                        refine zW.pick (lv' := [(0, .ref (p 0)), (1, .ref (q 0)), (2, .int (nI ((zFw a 0).2))), (3, .int (iZ ((zFw a 0).1))), (4, .int (nI (zPop (zFw a 0).2 12))), (5, .int (nI (aSold a))), (6, .int (nI (zSum (fun b => if (zFw a 0).2.testBit b = true then zPr a b else 0) (zNb a)))), (7, .int (iZ (zSi (aPaid a) (zNd a)))), (8, .int (iZ (zSi (aProf a) (zNd a)))), (9, .int (nI (zPop (aSold a) f))), (10, .int (nI f)), (11, .int (iZ (zWl a f j))), (12, .int (nI ((zCnt (fun b => zCn a (zOu a) b && (zBu a b).testBit f) j) + 0))), (13, .int (nI (j + 1)))]) [2, 3, 4, 5, 6, 7, 8, 9, 10, 11, 12, 13, 1, 0] rfl ?_
                        refine zW.lve (lv' := [(0, .ref (p 0)), (1, .ref (q 0)), (2, .int (nI ((zFw a 0).2))), (3, .int (iZ ((zFw a 0).1))), (4, .int (nI (zPop (zFw a 0).2 12))), (5, .int (nI (aSold a))), (6, .int (nI (zSum (fun b => if (zFw a 0).2.testBit b = true then zPr a b else 0) (zNb a)))), (7, .int (iZ (zSi (aPaid a) (zNd a)))), (8, .int (iZ (zSi (aProf a) (zNd a)))), (9, .int (nI (zPop (aSold a) f))), (10, .int (nI f)), (11, .int (iZ (zWl a f (j + 1)))), (12, .int (nI (zCnt (fun b => zCn a (zOu a) b && (zBu a b).testBit f) (j + 1)))), (13, .int (nI (j + 1)))]) (by rw [zWl_n (fun h => c_494 h.1), zCnt_n (p := (fun b => zCn a (zOu a) b && (zBu a b).testBit f)) (by simp [c_516])] <;> rfl) ?_
                        exact ih457 (j + 1) (by omega)
                      · skip
                        refine z_iconst C (nI 1) dX3_isSame_519 (by decide) ?_
                        refine z_goto C 524 dX3_isSame_520 (by decide) ?_
                        refine z_iadd C dX3_isSame_524 (v := nI ((zCnt (fun b => zCn a (zOu a) b && (zBu a b).testBit f) j) + 1)) (nI_add (zCnt (fun b => zCn a (zOu a) b && (zBu a b).testBit f) j) 1) ?_
                        refine z_istore C dX3_isSame_525 (by decide) [(12, .int (nI ((zCnt (fun b => zCn a (zOu a) b && (zBu a b).testBit f) j) + 1))), (0, .ref (p 0)), (1, .ref (q 0)), (2, .int (nI ((zFw a 0).2))), (3, .int (iZ ((zFw a 0).1))), (4, .int (nI (zPop (zFw a 0).2 12))), (5, .int (nI (aSold a))), (6, .int (nI (zSum (fun b => if (zFw a 0).2.testBit b = true then zPr a b else 0) (zNb a)))), (7, .int (iZ (zSi (aPaid a) (zNd a)))), (8, .int (iZ (zSi (aProf a) (zNd a)))), (9, .int (nI (zPop (aSold a) f))), (10, .int (nI f)), (11, .int (iZ (zWl a f j))), (13, .int (nI j))] rfl ?_
                        refine z_iinc C dX3_isSame_527 13 (nI (j + 1)) rfl (nI_add j 1) (by decide) [(13, .int (nI (j + 1))), (12, .int (nI ((zCnt (fun b => zCn a (zOu a) b && (zBu a b).testBit f) j) + 1))), (0, .ref (p 0)), (1, .ref (q 0)), (2, .int (nI ((zFw a 0).2))), (3, .int (iZ ((zFw a 0).1))), (4, .int (nI (zPop (zFw a 0).2 12))), (5, .int (nI (aSold a))), (6, .int (nI (zSum (fun b => if (zFw a 0).2.testBit b = true then zPr a b else 0) (zNb a)))), (7, .int (iZ (zSi (aPaid a) (zNd a)))), (8, .int (iZ (zSi (aProf a) (zNd a)))), (9, .int (nI (zPop (aSold a) f))), (10, .int (nI f)), (11, .int (iZ (zWl a f j)))] rfl ?_
                        refine z_goto C 457 dX3_isSame_530 (by decide) ?_
                        refine zW.pick (lv' := [(0, .ref (p 0)), (1, .ref (q 0)), (2, .int (nI ((zFw a 0).2))), (3, .int (iZ ((zFw a 0).1))), (4, .int (nI (zPop (zFw a 0).2 12))), (5, .int (nI (aSold a))), (6, .int (nI (zSum (fun b => if (zFw a 0).2.testBit b = true then zPr a b else 0) (zNb a)))), (7, .int (iZ (zSi (aPaid a) (zNd a)))), (8, .int (iZ (zSi (aProf a) (zNd a)))), (9, .int (nI (zPop (aSold a) f))), (10, .int (nI f)), (11, .int (iZ (zWl a f j))), (12, .int (nI ((zCnt (fun b => zCn a (zOu a) b && (zBu a b).testBit f) j) + 1))), (13, .int (nI (j + 1)))]) [2, 3, 4, 5, 6, 7, 8, 9, 10, 11, 12, 13, 1, 0] rfl ?_
                        refine zW.lve (lv' := [(0, .ref (p 0)), (1, .ref (q 0)), (2, .int (nI ((zFw a 0).2))), (3, .int (iZ ((zFw a 0).1))), (4, .int (nI (zPop (zFw a 0).2 12))), (5, .int (nI (aSold a))), (6, .int (nI (zSum (fun b => if (zFw a 0).2.testBit b = true then zPr a b else 0) (zNb a)))), (7, .int (iZ (zSi (aPaid a) (zNd a)))), (8, .int (iZ (zSi (aProf a) (zNd a)))), (9, .int (nI (zPop (aSold a) f))), (10, .int (nI f)), (11, .int (iZ (zWl a f (j + 1)))), (12, .int (nI (zCnt (fun b => zCn a (zOu a) b && (zBu a b).testBit f) (j + 1)))), (13, .int (nI (j + 1)))]) (by rw [zWl_n (fun h => c_494 h.1), zCnt_y (p := (fun b => zCn a (zOu a) b && (zBu a b).testBit f)) (by simp_all)] <;> rfl) ?_
                        exact ih457 (j + 1) (by omega)
                    · skip
                      refine z_aload_n C dX3_isSame_497 0 rfl ?_
                      refine z_get C inX3_isSame_X3 (20 + 0) (zapp_B wS_o) rfl 2 (by decide) (C.w 3 rfl) rfl dX3_isSame_498 ?_
                      refine z_iload C dX3_isSame_501 13 rfl ?_
                      refine z_aald C (20 + 3) (zapp_B wS_bi) (by omega) (by omega) dX3_isSame_503 (zPt_at (by omega)) ?_
                      refine z_iconst C (nI 0) dX3_isSame_504 (by decide) ?_
                      refine z_ialdN C (20 + (4 + j)) (zapp_B (wS_row (b := j) (by omega))) (by omega) (by decide) dX3_isSame_505 (v := nI (zOw a j)) rfl ?_
                      have f_505b := ha.ow (b := j) (by omega)
                      refine z_istore C dX3_isSame_506 (by decide) [(11, .int (nI (zOw a j))), (0, .ref (p 0)), (1, .ref (q 0)), (2, .int (nI ((zFw a 0).2))), (3, .int (iZ ((zFw a 0).1))), (4, .int (nI (zPop (zFw a 0).2 12))), (5, .int (nI (aSold a))), (6, .int (nI (zSum (fun b => if (zFw a 0).2.testBit b = true then zPr a b else 0) (zNb a)))), (7, .int (iZ (zSi (aPaid a) (zNd a)))), (8, .int (iZ (zSi (aProf a) (zNd a)))), (9, .int (nI (zPop (aSold a) f))), (10, .int (nI f)), (12, .int (nI (zCnt (fun b => zCn a (zOu a) b && (zBu a b).testBit f) j))), (13, .int (nI j))] rfl ?_
                      refine z_iload C dX3_isSame_508 12 rfl ?_
                      refine z_aload_n C dX3_isSame_510 1 rfl ?_
                      refine z_iload C dX3_isSame_511 13 rfl ?_
                      refine z_callV C (zM.fh (c_X3_counts l g p a sm3 ha j (by omega)) (wB g q a (zG0 a) bs wb pd gw)) (cwV 1 C.ts gX3_isSame_X3_counts rfl rfl rfl (by decide +kernel) ⟨Nat.le_of_ble_eq_true rfl, Nat.le_of_ble_eq_true rfl⟩) (zapp_B wS_o) rfl rfl rfl (Nat.le_of_ble_eq_true rfl) dX3_isSame_513 ⟨by dsimp only; omega, by dsimp only; omega⟩ ?_
                      rintro _ _ ⟨_, ⟨rfl, rfl⟩, rfl⟩
                      refine zW.eqst (st2 := [.int (bI (zCn a (zOu a) j)), .int (nI (zCnt (fun b => zCn a (zOu a) b && (zBu a b).testBit f) j))]) rfl ?_
                      refine z_if_eq C 523 dX3_isSame_516 (by decide) (zeq_B0 _) (fun c_516 => ?_) (fun c_516 => ?_)
                      · skip
                        refine z_iconst C (nI 0) dX3_isSame_523 (by decide) ?_
                        refine z_iadd C dX3_isSame_524 (v := nI ((zCnt (fun b => zCn a (zOu a) b && (zBu a b).testBit f) j) + 0)) (nI_add (zCnt (fun b => zCn a (zOu a) b && (zBu a b).testBit f) j) 0) ?_
                        refine z_istore C dX3_isSame_525 (by decide) [(12, .int (nI ((zCnt (fun b => zCn a (zOu a) b && (zBu a b).testBit f) j) + 0))), (11, .int (nI (zOw a j))), (0, .ref (p 0)), (1, .ref (q 0)), (2, .int (nI ((zFw a 0).2))), (3, .int (iZ ((zFw a 0).1))), (4, .int (nI (zPop (zFw a 0).2 12))), (5, .int (nI (aSold a))), (6, .int (nI (zSum (fun b => if (zFw a 0).2.testBit b = true then zPr a b else 0) (zNb a)))), (7, .int (iZ (zSi (aPaid a) (zNd a)))), (8, .int (iZ (zSi (aProf a) (zNd a)))), (9, .int (nI (zPop (aSold a) f))), (10, .int (nI f)), (13, .int (nI j))] rfl ?_
                        refine z_iinc C dX3_isSame_527 13 (nI (j + 1)) rfl (nI_add j 1) (by decide) [(13, .int (nI (j + 1))), (12, .int (nI ((zCnt (fun b => zCn a (zOu a) b && (zBu a b).testBit f) j) + 0))), (11, .int (nI (zOw a j))), (0, .ref (p 0)), (1, .ref (q 0)), (2, .int (nI ((zFw a 0).2))), (3, .int (iZ ((zFw a 0).1))), (4, .int (nI (zPop (zFw a 0).2 12))), (5, .int (nI (aSold a))), (6, .int (nI (zSum (fun b => if (zFw a 0).2.testBit b = true then zPr a b else 0) (zNb a)))), (7, .int (iZ (zSi (aPaid a) (zNd a)))), (8, .int (iZ (zSi (aProf a) (zNd a)))), (9, .int (nI (zPop (aSold a) f))), (10, .int (nI f))] rfl ?_
                        refine z_goto C 457 dX3_isSame_530 (by decide) ?_
                        refine zW.pick (lv' := [(0, .ref (p 0)), (1, .ref (q 0)), (2, .int (nI ((zFw a 0).2))), (3, .int (iZ ((zFw a 0).1))), (4, .int (nI (zPop (zFw a 0).2 12))), (5, .int (nI (aSold a))), (6, .int (nI (zSum (fun b => if (zFw a 0).2.testBit b = true then zPr a b else 0) (zNb a)))), (7, .int (iZ (zSi (aPaid a) (zNd a)))), (8, .int (iZ (zSi (aProf a) (zNd a)))), (9, .int (nI (zPop (aSold a) f))), (10, .int (nI f)), (11, .int (nI (zOw a j))), (12, .int (nI ((zCnt (fun b => zCn a (zOu a) b && (zBu a b).testBit f) j) + 0))), (13, .int (nI (j + 1)))]) [3, 4, 5, 6, 7, 8, 9, 10, 11, 12, 13, 2, 1, 0] rfl ?_
                        refine zW.lve (lv' := [(0, .ref (p 0)), (1, .ref (q 0)), (2, .int (nI ((zFw a 0).2))), (3, .int (iZ ((zFw a 0).1))), (4, .int (nI (zPop (zFw a 0).2 12))), (5, .int (nI (aSold a))), (6, .int (nI (zSum (fun b => if (zFw a 0).2.testBit b = true then zPr a b else 0) (zNb a)))), (7, .int (iZ (zSi (aPaid a) (zNd a)))), (8, .int (iZ (zSi (aProf a) (zNd a)))), (9, .int (nI (zPop (aSold a) f))), (10, .int (nI f)), (11, .int (iZ (zWl a f (j + 1)))), (12, .int (nI (zCnt (fun b => zCn a (zOu a) b && (zBu a b).testBit f) (j + 1)))), (13, .int (nI (j + 1)))]) (by rw [zWl_y c_494 (by simpa using c_481), zCnt_n (p := (fun b => zCn a (zOu a) b && (zBu a b).testBit f)) (by simp [c_516])] <;> rfl) ?_
                        exact ih457 (j + 1) (by omega)
                      · skip
                        refine z_iconst C (nI 1) dX3_isSame_519 (by decide) ?_
                        refine z_goto C 524 dX3_isSame_520 (by decide) ?_
                        refine z_iadd C dX3_isSame_524 (v := nI ((zCnt (fun b => zCn a (zOu a) b && (zBu a b).testBit f) j) + 1)) (nI_add (zCnt (fun b => zCn a (zOu a) b && (zBu a b).testBit f) j) 1) ?_
                        refine z_istore C dX3_isSame_525 (by decide) [(12, .int (nI ((zCnt (fun b => zCn a (zOu a) b && (zBu a b).testBit f) j) + 1))), (11, .int (nI (zOw a j))), (0, .ref (p 0)), (1, .ref (q 0)), (2, .int (nI ((zFw a 0).2))), (3, .int (iZ ((zFw a 0).1))), (4, .int (nI (zPop (zFw a 0).2 12))), (5, .int (nI (aSold a))), (6, .int (nI (zSum (fun b => if (zFw a 0).2.testBit b = true then zPr a b else 0) (zNb a)))), (7, .int (iZ (zSi (aPaid a) (zNd a)))), (8, .int (iZ (zSi (aProf a) (zNd a)))), (9, .int (nI (zPop (aSold a) f))), (10, .int (nI f)), (13, .int (nI j))] rfl ?_
                        refine z_iinc C dX3_isSame_527 13 (nI (j + 1)) rfl (nI_add j 1) (by decide) [(13, .int (nI (j + 1))), (12, .int (nI ((zCnt (fun b => zCn a (zOu a) b && (zBu a b).testBit f) j) + 1))), (11, .int (nI (zOw a j))), (0, .ref (p 0)), (1, .ref (q 0)), (2, .int (nI ((zFw a 0).2))), (3, .int (iZ ((zFw a 0).1))), (4, .int (nI (zPop (zFw a 0).2 12))), (5, .int (nI (aSold a))), (6, .int (nI (zSum (fun b => if (zFw a 0).2.testBit b = true then zPr a b else 0) (zNb a)))), (7, .int (iZ (zSi (aPaid a) (zNd a)))), (8, .int (iZ (zSi (aProf a) (zNd a)))), (9, .int (nI (zPop (aSold a) f))), (10, .int (nI f))] rfl ?_
                        refine z_goto C 457 dX3_isSame_530 (by decide) ?_
                        refine zW.pick (lv' := [(0, .ref (p 0)), (1, .ref (q 0)), (2, .int (nI ((zFw a 0).2))), (3, .int (iZ ((zFw a 0).1))), (4, .int (nI (zPop (zFw a 0).2 12))), (5, .int (nI (aSold a))), (6, .int (nI (zSum (fun b => if (zFw a 0).2.testBit b = true then zPr a b else 0) (zNb a)))), (7, .int (iZ (zSi (aPaid a) (zNd a)))), (8, .int (iZ (zSi (aProf a) (zNd a)))), (9, .int (nI (zPop (aSold a) f))), (10, .int (nI f)), (11, .int (nI (zOw a j))), (12, .int (nI ((zCnt (fun b => zCn a (zOu a) b && (zBu a b).testBit f) j) + 1))), (13, .int (nI (j + 1)))]) [3, 4, 5, 6, 7, 8, 9, 10, 11, 12, 13, 2, 1, 0] rfl ?_
                        refine zW.lve (lv' := [(0, .ref (p 0)), (1, .ref (q 0)), (2, .int (nI ((zFw a 0).2))), (3, .int (iZ ((zFw a 0).1))), (4, .int (nI (zPop (zFw a 0).2 12))), (5, .int (nI (aSold a))), (6, .int (nI (zSum (fun b => if (zFw a 0).2.testBit b = true then zPr a b else 0) (zNb a)))), (7, .int (iZ (zSi (aPaid a) (zNd a)))), (8, .int (iZ (zSi (aProf a) (zNd a)))), (9, .int (nI (zPop (aSold a) f))), (10, .int (nI f)), (11, .int (iZ (zWl a f (j + 1)))), (12, .int (nI (zCnt (fun b => zCn a (zOu a) b && (zBu a b).testBit f) (j + 1)))), (13, .int (nI (j + 1)))]) (by rw [zWl_y c_494 (by simpa using c_481), zCnt_y (p := (fun b => zCn a (zOu a) b && (zBu a b).testBit f)) (by simp_all)] <;> rfl) ?_
                        exact ih457 (j + 1) (by omega)
                  · skip
                    refine z_goto C 527 dX3_isSame_484 (by decide) ?_
                    refine z_iinc C dX3_isSame_527 13 (nI (j + 1)) rfl (nI_add j 1) (by decide) [(13, .int (nI (j + 1))), (0, .ref (p 0)), (1, .ref (q 0)), (2, .int (nI ((zFw a 0).2))), (3, .int (iZ ((zFw a 0).1))), (4, .int (nI (zPop (zFw a 0).2 12))), (5, .int (nI (aSold a))), (6, .int (nI (zSum (fun b => if (zFw a 0).2.testBit b = true then zPr a b else 0) (zNb a)))), (7, .int (iZ (zSi (aPaid a) (zNd a)))), (8, .int (iZ (zSi (aProf a) (zNd a)))), (9, .int (nI (zPop (aSold a) f))), (10, .int (nI f)), (11, .int (iZ (zWl a f j))), (12, .int (nI (zCnt (fun b => zCn a (zOu a) b && (zBu a b).testBit f) j)))] rfl ?_
                    refine z_goto C 457 dX3_isSame_530 (by decide) ?_
                    refine zW.pick (lv' := [(0, .ref (p 0)), (1, .ref (q 0)), (2, .int (nI ((zFw a 0).2))), (3, .int (iZ ((zFw a 0).1))), (4, .int (nI (zPop (zFw a 0).2 12))), (5, .int (nI (aSold a))), (6, .int (nI (zSum (fun b => if (zFw a 0).2.testBit b = true then zPr a b else 0) (zNb a)))), (7, .int (iZ (zSi (aPaid a) (zNd a)))), (8, .int (iZ (zSi (aProf a) (zNd a)))), (9, .int (nI (zPop (aSold a) f))), (10, .int (nI f)), (11, .int (iZ (zWl a f j))), (12, .int (nI (zCnt (fun b => zCn a (zOu a) b && (zBu a b).testBit f) j))), (13, .int (nI (j + 1)))]) [1, 2, 3, 4, 5, 6, 7, 8, 9, 10, 11, 12, 13, 0] rfl ?_
                    refine zW.lve (lv' := [(0, .ref (p 0)), (1, .ref (q 0)), (2, .int (nI ((zFw a 0).2))), (3, .int (iZ ((zFw a 0).1))), (4, .int (nI (zPop (zFw a 0).2 12))), (5, .int (nI (aSold a))), (6, .int (nI (zSum (fun b => if (zFw a 0).2.testBit b = true then zPr a b else 0) (zNb a)))), (7, .int (iZ (zSi (aPaid a) (zNd a)))), (8, .int (iZ (zSi (aProf a) (zNd a)))), (9, .int (nI (zPop (aSold a) f))), (10, .int (nI f)), (11, .int (iZ (zWl a f (j + 1)))), (12, .int (nI (zCnt (fun b => zCn a (zOu a) b && (zBu a b).testBit f) (j + 1)))), (13, .int (nI (j + 1)))]) (by rw [zWl_n (fun h => by rw [c_481] at h; cases h.2), zCnt_n (p := (fun b => zCn a (zOu a) b && (zBu a b).testBit f)) (by simp [c_481])]) ?_
                    exact ih457 (j + 1) (by omega)
              exact hlp457 (zNb a) 0 (by omega)
          exact hlp438 (zNf a) 0 sm2 (by omega)
        | succ kd ih226 =>
          intro d sm2 hdk
          have hw0 := zFw_ok ha (2 ^ d)
          obtain ⟨hw1, hw2, hw3⟩ := id hw0
          have hbp := zLp_bnd ha 0 d _ (Nat.le_refl _)
          refine z_iload C dX3_isSame_226 9 rfl ?_
          refine z_aload_n C dX3_isSame_228 0 rfl ?_
          refine z_get C inX3_isSame_X3 (20 + 0) (zapp_B wS_o) rfl 1 (by decide) (C.w 5 rfl) rfl dX3_isSame_229 ?_
          refine z_alenZ C (20 + 2) (zapp_B wS_in) dX3_isSame_232 ?_
          refine z_icmp_ge C 432 dX3_isSame_233 (by decide) (zle_NN (by omega) (by omega)) (fun h9 => absurd h9 (by omega)) (fun c_233 => ?_)
          refine z_iconst C (nI 0) dX3_isSame_236 (by decide) ?_
          refine z_istore C dX3_isSame_237 (by decide) [(10, .int (nI 0)), (0, .ref (p 0)), (1, .ref (q 0)), (2, .int (nI ((zFw a 0).2))), (3, .int (iZ ((zFw a 0).1))), (4, .int (nI (zPop (zFw a 0).2 12))), (5, .int (nI (aSold a))), (6, .int (nI (zSum (fun b => if (zFw a 0).2.testBit b = true then zPr a b else 0) (zNb a)))), (7, .int (iZ (zSi (aPaid a) d))), (8, .int (iZ (zSi (aProf a) d))), (9, .int (nI d))] rfl ?_
          refine z_aload_n C dX3_isSame_239 1 rfl ?_
          refine z_get C inX3_isSame_X3 (20 + 0) (zapp_B wS_o) rfl 2 (by decide) (C.w 3 rfl) rfl dX3_isSame_240 ?_
          refine z_astore C dX3_isSame_243 (by decide) [(11, .ref (p 3)), (10, .int (nI 0)), (0, .ref (p 0)), (1, .ref (q 0)), (2, .int (nI ((zFw a 0).2))), (3, .int (iZ ((zFw a 0).1))), (4, .int (nI (zPop (zFw a 0).2 12))), (5, .int (nI (aSold a))), (6, .int (nI (zSum (fun b => if (zFw a 0).2.testBit b = true then zPr a b else 0) (zNb a)))), (7, .int (iZ (zSi (aPaid a) d))), (8, .int (iZ (zSi (aProf a) d))), (9, .int (nI d))] rfl ?_
          refine z_aload C dX3_isSame_245 0 rfl ?_
          refine z_alenR C (20 + 3) (zapp_B wS_bi) dX3_isSame_247 ?_
          refine z_istore C dX3_isSame_248 (by decide) [(12, .int (nI (zNb a))), (11, .ref (p 3)), (10, .int (nI 0)), (0, .ref (p 0)), (1, .ref (q 0)), (2, .int (nI ((zFw a 0).2))), (3, .int (iZ ((zFw a 0).1))), (4, .int (nI (zPop (zFw a 0).2 12))), (5, .int (nI (aSold a))), (6, .int (nI (zSum (fun b => if (zFw a 0).2.testBit b = true then zPr a b else 0) (zNb a)))), (7, .int (iZ (zSi (aPaid a) d))), (8, .int (iZ (zSi (aProf a) d))), (9, .int (nI d))] rfl ?_
          refine z_iconst C (nI 0) dX3_isSame_250 (by decide) ?_
          refine z_istore C dX3_isSame_251 (by decide) [(13, .int (nI 0)), (12, .int (nI (zNb a))), (11, .ref (p 3)), (10, .int (nI 0)), (0, .ref (p 0)), (1, .ref (q 0)), (2, .int (nI ((zFw a 0).2))), (3, .int (iZ ((zFw a 0).1))), (4, .int (nI (zPop (zFw a 0).2 12))), (5, .int (nI (aSold a))), (6, .int (nI (zSum (fun b => if (zFw a 0).2.testBit b = true then zPr a b else 0) (zNb a)))), (7, .int (iZ (zSi (aPaid a) d))), (8, .int (iZ (zSi (aProf a) d))), (9, .int (nI d))] rfl ?_
          refine zW.pick (lv' := [(0, .ref (p 0)), (1, .ref (q 0)), (2, .int (nI ((zFw a 0).2))), (3, .int (iZ ((zFw a 0).1))), (4, .int (nI (zPop (zFw a 0).2 12))), (5, .int (nI (aSold a))), (6, .int (nI (zSum (fun b => if (zFw a 0).2.testBit b = true then zPr a b else 0) (zNb a)))), (7, .int (iZ (zSi (aPaid a) d))), (8, .int (iZ (zSi (aProf a) d))), (9, .int (nI d)), (10, .int (nI 0)), (11, .ref (p 3)), (12, .int (nI (zNb a))), (13, .int (nI 0))]) [4, 5, 6, 7, 8, 9, 10, 11, 12, 13, 3, 2, 1, 0] rfl ?_
          have hlp253 : ∀ (kj j : Nat), j + kj = zNb a → zW g l ({ frames := 13, cells := 26, slots := 159, locals := 315 }) E (zMQ g E (zPie (bI true) (fun _ => True)) 26 159) 15 (12 + d) (96 + 6 * d) (wB g q a (zG0 a) bs wb pd gw ++ (wS g p a sm2)) [(0, .ref (p 0)), (1, .ref (q 0)), (2, .int (nI ((zFw a 0).2))), (3, .int (iZ ((zFw a 0).1))), (4, .int (nI (zPop (zFw a 0).2 12))), (5, .int (nI (aSold a))), (6, .int (nI (zSum (fun b => if (zFw a 0).2.testBit b = true then zPr a b else 0) (zNb a)))), (7, .int (iZ (zSi (aPaid a) d))), (8, .int (iZ (zSi (aProf a) d))), (9, .int (nI d)), (10, .int (nI (zCnt (fun b => decide (zOw a b = d) && zGo a b == 0) j))), (11, .ref (p 3)), (12, .int (nI (zNb a))), (13, .int (nI j))] [] 253 := by
            intro kj
            induction kj with
            | zero =>
              intro j hjk
              refine z_iload C dX3_isSame_253 13 rfl ?_
              refine z_iload C dX3_isSame_255 12 rfl ?_
              refine z_icmp_ge C 297 dX3_isSame_257 (by decide) (zle_NN (by omega) (by omega)) (fun c_257 => ?_) (fun h9 => absurd (by omega) h9)
              refine zW.pick (lv' := [(0, .ref (p 0)), (1, .ref (q 0)), (2, .int (nI ((zFw a 0).2))), (3, .int (iZ ((zFw a 0).1))), (4, .int (nI (zPop (zFw a 0).2 12))), (5, .int (nI (aSold a))), (6, .int (nI (zSum (fun b => if (zFw a 0).2.testBit b = true then zPr a b else 0) (zNb a)))), (7, .int (iZ (zSi (aPaid a) d))), (8, .int (iZ (zSi (aProf a) d))), (9, .int (nI d)), (10, .int (nI (zCnt (fun b => decide (zOw a b = d) && zGo a b == 0) j)))]) [0, 1, 2, 3, 4, 5, 6, 7, 8, 9, 10] rfl ?_
              refine zW.lve (lv' := [(0, .ref (p 0)), (1, .ref (q 0)), (2, .int (nI ((zFw a 0).2))), (3, .int (iZ ((zFw a 0).1))), (4, .int (nI (zPop (zFw a 0).2 12))), (5, .int (nI (aSold a))), (6, .int (nI (zSum (fun b => if (zFw a 0).2.testBit b = true then zPr a b else 0) (zNb a)))), (7, .int (iZ (zSi (aPaid a) d))), (8, .int (iZ (zSi (aProf a) d))), (9, .int (nI d)), (10, .int (nI (zLof a d)))]) (by rw [show j = zNb a by omega]; rfl) ?_
              refine z_iconst C (nI 0) dX3_isSame_297 (by decide) ?_
              refine z_istore C dX3_isSame_298 (by decide) [(11, .int (nI 0)), (0, .ref (p 0)), (1, .ref (q 0)), (2, .int (nI ((zFw a 0).2))), (3, .int (iZ ((zFw a 0).1))), (4, .int (nI (zPop (zFw a 0).2 12))), (5, .int (nI (aSold a))), (6, .int (nI (zSum (fun b => if (zFw a 0).2.testBit b = true then zPr a b else 0) (zNb a)))), (7, .int (iZ (zSi (aPaid a) d))), (8, .int (iZ (zSi (aProf a) d))), (9, .int (nI d)), (10, .int (nI (zLof a d)))] rfl ?_
              refine z_aload_n C dX3_isSame_300 1 rfl ?_
              refine z_iload C dX3_isSame_301 10 rfl ?_
              refine z_callV C (zM.fh (c_X3_sale l g p a sm2 ha ((d : Nat) : Int) ⟨by omega, by omega⟩ (zFw a (2 ^ d)) (zCh_wo ha d)) (wB g q a (zG0 a) bs wb pd gw)) (cwV 1 C.ts gX3_isSame_X3_sale rfl rfl rfl (by decide +kernel) ⟨Nat.le_of_ble_eq_true rfl, Nat.le_of_ble_eq_true rfl⟩) (zapp_B wS_o) rfl rfl rfl (Nat.le_of_ble_eq_true rfl) dX3_isSame_303 ⟨by dsimp only; omega, by dsimp only; omega⟩ ?_
              rintro _ _ ⟨_, ⟨rfl, rfl⟩, rfl⟩
              refine zW.eqst (st2 := [.int (nI ((zFw a (2 ^ d)).2))]) rfl ?_
              refine z_pop C dX3_isSame_306 rfl ?_
              refine z_aload_n C dX3_isSame_307 1 rfl ?_
              refine z_get C inX3_isSame_X3 (20 + 0) (zapp_B wS_o) rfl 3 (by decide) (C.w 1 rfl) rfl dX3_isSame_308 ?_
              refine z_istore C dX3_isSame_311 (by decide) [(11, .int (iZ ((zFw a (2 ^ d)).1))), (0, .ref (p 0)), (1, .ref (q 0)), (2, .int (nI ((zFw a 0).2))), (3, .int (iZ ((zFw a 0).1))), (4, .int (nI (zPop (zFw a 0).2 12))), (5, .int (nI (aSold a))), (6, .int (nI (zSum (fun b => if (zFw a 0).2.testBit b = true then zPr a b else 0) (zNb a)))), (7, .int (iZ (zSi (aPaid a) d))), (8, .int (iZ (zSi (aProf a) d))), (9, .int (nI d)), (10, .int (nI (zLof a d)))] rfl ?_
              refine z_bipush C (nI 6) dX3_isSame_313 (by decide) ?_
              refine z_newaI C (C.w 4 rfl) (n := 6) (by omega) (by dsimp only; omega) (by dsimp only; omega) dX3_isSame_315 (fun x315 => ?_)
              refine zW.eqw (ws2 := wB g q a (zG0 a) bs wb pd gw ++ (wS g p a (zT3 (zFw a (2 ^ d))) ++ [(x315, .inl (zI g, 6, .inl (fun _ => nI 0)))])) (List.append_assoc _ _ _) ?_
              refine z_dup C dX3_isSame_317 rfl ?_
              refine z_iconst C (nI 0) dX3_isSame_318 (by decide) ?_
              refine z_aload_n C dX3_isSame_319 1 rfl ?_
              refine z_get C inX3_isSame_X3 (20 + 0) (zapp_B (zapp_l wS_o)) rfl 1 (by decide) (C.w 5 rfl) rfl dX3_isSame_320 ?_
              refine z_iload C dX3_isSame_323 10 rfl ?_
              refine z_zaldN C (20 + 2) (zapp_B (zapp_l wS_in)) (by omega) (by omega) dX3_isSame_325 (v := bI (zIn a d)) rfl ?_
              refine z_if_eq C 333 dX3_isSame_326 (by decide) (zeq_B0 _) (fun c_326 => ?_) (fun c_326 => ?_)
              · skip
                refine z_iconst C (nI 0) dX3_isSame_333 (by decide) ?_
                refine z_iastN C (20 + (wS g p a (zT3 (zFw a (2 ^ d)))).length) (zapp_B zapp_e) (by omega) (by decide) dX3_isSame_334 (zset_B zapp_set) ?_
                refine z_dup C dX3_isSame_335 rfl ?_
                refine z_iconst C (nI 1) dX3_isSame_336 (by decide) ?_
                refine z_iload C dX3_isSame_337 11 rfl ?_
                refine z_iastN C (20 + (wS g p a (zT3 (zFw a (2 ^ d)))).length) (zapp_B zapp_e) (by omega) (by decide) dX3_isSame_339 (zset_B zapp_set) ?_
                refine z_dup C dX3_isSame_340 rfl ?_
                refine z_iconst C (nI 2) dX3_isSame_341 (by decide) ?_
                refine z_aload_n C dX3_isSame_342 1 rfl ?_
                refine z_iload C dX3_isSame_343 10 rfl ?_
                refine z_callV C (zM.fm (c_X3_won l g p a (zT3 (zFw a (2 ^ d))) ha d (by omega)) (wB g q a (zG0 a) bs wb pd gw) [(x315, .inl (zI g, 6, .inl (upd (upd (fun _ => nI 0) 0 (nI 0)) 1 (nI (zLof a d)))))]) (cwV 1 C.ts gX3_isSame_X3_won rfl rfl rfl (by decide +kernel) ⟨Nat.le_of_ble_eq_true rfl, Nat.le_of_ble_eq_true rfl⟩) (zapp_B (zapp_l wS_o)) rfl rfl rfl (Nat.le_of_ble_eq_true rfl) dX3_isSame_345 ⟨by dsimp only; omega, by dsimp only; omega⟩ ?_
                rintro _ _ ⟨_, ⟨rfl, rfl⟩, rfl⟩
                refine zW.eqst (st2 := [.int (iZ (aWin a d)), .int (nI 2), .ref x315, .ref x315]) rfl ?_
                refine z_iastN C (20 + (wS g p a (zT3 (zFw a 0))).length) (zapp_B zapp_e) (by omega) (by decide) dX3_isSame_348 (zset_B zapp_set) ?_
                refine z_dup C dX3_isSame_349 rfl ?_
                refine z_iconst C (nI 3) dX3_isSame_350 (by decide) ?_
                refine z_aload_n C dX3_isSame_351 1 rfl ?_
                refine z_iload C dX3_isSame_352 10 rfl ?_
                refine z_callV C (zM.fm (c_X3_pays l g p a (zT3 (zFw a 0)) ha d (by omega)) (wB g q a (zG0 a) bs wb pd gw) [(x315, .inl (zI g, 6, .inl (upd (upd (upd (fun _ => nI 0) 0 (nI 0)) 1 (nI (zLof a d))) 2 (iZ (aWin a d)))))]) (cwV 1 C.ts gX3_isSame_X3_pays rfl rfl rfl (by decide +kernel) ⟨Nat.le_of_ble_eq_true rfl, Nat.le_of_ble_eq_true rfl⟩) (zapp_B (zapp_l wS_o)) rfl rfl rfl (Nat.le_of_ble_eq_true rfl) dX3_isSame_354 ⟨by dsimp only; omega, by dsimp only; omega⟩ ?_
                rintro _ _ ⟨_, ⟨rfl, sm354, rfl⟩, rfl⟩
                refine zW.eqst (st2 := [.int (iZ (aPaid a d)), .int (nI 3), .ref x315, .ref x315]) rfl ?_
                refine z_iastN C (20 + (wS g p a sm354).length) (zapp_B zapp_e) (by omega) (by decide) dX3_isSame_357 (zset_B zapp_set) ?_
                refine z_dup C dX3_isSame_358 rfl ?_
                refine z_iconst C (nI 4) dX3_isSame_359 (by decide) ?_
                refine z_aload_n C dX3_isSame_360 1 rfl ?_
                refine z_iload C dX3_isSame_361 10 rfl ?_
                refine z_callV C (zM.fm (c_X3_profit l g p a sm354 ha d (by omega)) (wB g q a (zG0 a) bs wb pd gw) [(x315, .inl (zI g, 6, .inl (upd (upd (upd (upd (fun _ => nI 0) 0 (nI 0)) 1 (nI (zLof a d))) 2 (iZ (aWin a d))) 3 (iZ (aPaid a d)))))]) (cwV 1 C.ts gX3_isSame_X3_profit rfl rfl rfl (by decide +kernel) ⟨Nat.le_of_ble_eq_true rfl, Nat.le_of_ble_eq_true rfl⟩) (zapp_B (zapp_l wS_o)) rfl rfl rfl (Nat.le_of_ble_eq_true rfl) dX3_isSame_363 ⟨by dsimp only; omega, by dsimp only; omega⟩ ?_
                rintro _ _ ⟨_, ⟨rfl, sm363, rfl⟩, rfl⟩
                refine zW.eqst (st2 := [.int (iZ (aProf a d)), .int (nI 4), .ref x315, .ref x315]) rfl ?_
                refine z_iastN C (20 + (wS g p a sm363).length) (zapp_B zapp_e) (by omega) (by decide) dX3_isSame_366 (zset_B zapp_set) ?_
                refine z_dup C dX3_isSame_367 rfl ?_
                refine z_iconst C (nI 5) dX3_isSame_368 (by decide) ?_
                refine z_iload C dX3_isSame_369 0 rfl ?_
                refine z_iastN C (20 + (wS g p a sm363).length) (zapp_B zapp_e) (by omega) (by decide) dX3_isSame_371 (zset_B zapp_set) ?_
                refine zW.eqw (congrArg (fun f9 => wB g q a (zG0 a) bs wb pd gw ++ (wS g p a sm363 ++ [(x315, .inl (zI g, 6, .inl f9))])) (show upd (upd (upd (upd (upd (upd (fun _ => nI 0) 0 (nI 0)) 1 (nI (zLof a d))) 2 (iZ (aWin a d))) 3 (iZ (aPaid a d))) 4 (iZ (aProf a d))) 5 (iZ ((zFw a (2 ^ d)).1)) = zRw 6 (aAbout a d) from zRw6_of (by show nI 0 = iZ (if zIn a d = true then 1 else 0); rw [if_neg (by rw [c_326]; decide)]; rfl) rfl rfl rfl rfl (by show _ = iZ (zGw a 0 d); unfold zGw; rw [if_pos (by omega), Nat.zero_or]))) ?_
                refine zW.eqw (ws2 := wB g q a (zG0 a) bs wb pd gw ++ (wS g p a sm363 ++ [(x315, .inl (zI g, 6, .inl (zRw 6 (aAbout a d))))])) rfl ?_
                refine z_astore C dX3_isSame_372 (by decide) [(12, .ref x315), (11, .int (iZ ((zFw a (2 ^ d)).1))), (0, .ref (p 0)), (1, .ref (q 0)), (2, .int (nI ((zFw a 0).2))), (3, .int (iZ ((zFw a 0).1))), (4, .int (nI (zPop (zFw a 0).2 12))), (5, .int (nI (aSold a))), (6, .int (nI (zSum (fun b => if (zFw a 0).2.testBit b = true then zPr a b else 0) (zNb a)))), (7, .int (iZ (zSi (aPaid a) d))), (8, .int (iZ (zSi (aProf a) d))), (9, .int (nI d)), (10, .int (nI (zLof a d)))] rfl ?_
                refine z_iconst C (nI 0) dX3_isSame_374 (by decide) ?_
                refine z_istore C dX3_isSame_375 (by decide) [(13, .int (nI 0)), (12, .ref x315), (11, .int (iZ ((zFw a (2 ^ d)).1))), (0, .ref (p 0)), (1, .ref (q 0)), (2, .int (nI ((zFw a 0).2))), (3, .int (iZ ((zFw a 0).1))), (4, .int (nI (zPop (zFw a 0).2 12))), (5, .int (nI (aSold a))), (6, .int (nI (zSum (fun b => if (zFw a 0).2.testBit b = true then zPr a b else 0) (zNb a)))), (7, .int (iZ (zSi (aPaid a) d))), (8, .int (iZ (zSi (aProf a) d))), (9, .int (nI d)), (10, .int (nI (zLof a d)))] rfl ?_
                refine zW.pick (lv' := [(0, .ref (p 0)), (1, .ref (q 0)), (2, .int (nI ((zFw a 0).2))), (3, .int (iZ ((zFw a 0).1))), (4, .int (nI (zPop (zFw a 0).2 12))), (5, .int (nI (aSold a))), (6, .int (nI (zSum (fun b => if (zFw a 0).2.testBit b = true then zPr a b else 0) (zNb a)))), (7, .int (iZ (zSi (aPaid a) d))), (8, .int (iZ (zSi (aProf a) d))), (9, .int (nI d)), (12, .ref x315), (13, .int (nI 0))]) [3, 4, 5, 6, 7, 8, 9, 10, 11, 12, 1, 0] rfl ?_
                have hlp377 : ∀ (kj6 j6 : Nat), j6 + kj6 = 6 → zW g l ({ frames := 13, cells := 26, slots := 159, locals := 315 }) E (zMQ g E (zPie (bI true) (fun _ => True)) 26 159) 15 (12 + d + 1) (96 + 6 * d + 6) (wB g q a (zG0 a) bs wb pd gw ++ (wS g p a sm363 ++ [(x315, .inl (zI g, 6, .inl (zRw 6 (aAbout a d))))])) [(0, .ref (p 0)), (1, .ref (q 0)), (2, .int (nI ((zFw a 0).2))), (3, .int (iZ ((zFw a 0).1))), (4, .int (nI (zPop (zFw a 0).2 12))), (5, .int (nI (aSold a))), (6, .int (nI (zSum (fun b => if (zFw a 0).2.testBit b = true then zPr a b else 0) (zNb a)))), (7, .int (iZ (zSi (aPaid a) d))), (8, .int (iZ (zSi (aProf a) d))), (9, .int (nI d)), (12, .ref x315), (13, .int (nI j6))] [] 377 := by
                  intro kj6
                  induction kj6 with
                  | zero =>
                    intro j6 hj6k
                    refine z_iload C dX3_isSame_377 11 rfl ?_
                    refine z_bipush C (nI 6) dX3_isSame_379 (by decide) ?_
                    refine z_icmp_ge C 408 dX3_isSame_381 (by decide) (zle_NN (by omega) (by omega)) (fun c_381 => ?_) (fun h9 => absurd (by omega) h9)
                    refine z_iload C dX3_isSame_408 7 rfl ?_
                    refine z_aload C dX3_isSame_410 10 rfl ?_
                    refine z_iconst C (nI 3) dX3_isSame_412 (by decide) ?_
                    refine z_ialdN C (20 + (wS g p a sm363).length) (zapp_B zapp_e) (by omega) (by decide) dX3_isSame_413 (v := iZ (aAbout a d 3)) (zRw_at (by omega)) ?_
                    refine z_iadd C dX3_isSame_414 (v := iZ ((zSi (aPaid a) d) + (aAbout a d 3))) (iZ_add (zSi (aPaid a) d) (aAbout a d 3)) ?_
                    refine z_istore C dX3_isSame_415 (by decide) [(7, .int (iZ ((zSi (aPaid a) d) + (aAbout a d 3)))), (0, .ref (p 0)), (1, .ref (q 0)), (2, .int (nI ((zFw a 0).2))), (3, .int (iZ ((zFw a 0).1))), (4, .int (nI (zPop (zFw a 0).2 12))), (5, .int (nI (aSold a))), (6, .int (nI (zSum (fun b => if (zFw a 0).2.testBit b = true then zPr a b else 0) (zNb a)))), (8, .int (iZ (zSi (aProf a) d))), (9, .int (nI d)), (12, .ref x315), (13, .int (nI j6))] rfl ?_
                    refine z_iload C dX3_isSame_417 8 rfl ?_
                    refine z_aload C dX3_isSame_419 10 rfl ?_
                    refine z_iconst C (nI 4) dX3_isSame_421 (by decide) ?_
                    refine z_ialdN C (20 + (wS g p a sm363).length) (zapp_B zapp_e) (by omega) (by decide) dX3_isSame_422 (v := iZ (aAbout a d 4)) (zRw_at (by omega)) ?_
                    refine z_iadd C dX3_isSame_423 (v := iZ ((zSi (aProf a) d) + (aAbout a d 4))) (iZ_add (zSi (aProf a) d) (aAbout a d 4)) ?_
                    refine z_istore C dX3_isSame_424 (by decide) [(8, .int (iZ ((zSi (aProf a) d) + (aAbout a d 4)))), (7, .int (iZ ((zSi (aPaid a) d) + (aAbout a d 3)))), (0, .ref (p 0)), (1, .ref (q 0)), (2, .int (nI ((zFw a 0).2))), (3, .int (iZ ((zFw a 0).1))), (4, .int (nI (zPop (zFw a 0).2 12))), (5, .int (nI (aSold a))), (6, .int (nI (zSum (fun b => if (zFw a 0).2.testBit b = true then zPr a b else 0) (zNb a)))), (9, .int (nI d)), (12, .ref x315), (13, .int (nI j6))] rfl ?_
                    refine zW.fewer [] (wB g q a (zG0 a) bs wb pd gw ++ (wS g p a sm363)) [(x315, .inl (zI g, 6, .inl (zRw 6 (aAbout a d))))] (List.append_assoc _ _ _).symm ?_
                    refine z_iinc C dX3_isSame_426 9 (nI (d + 1)) rfl (nI_add d 1) (by decide) [(9, .int (nI (d + 1))), (8, .int (iZ ((zSi (aProf a) d) + (aAbout a d 4)))), (7, .int (iZ ((zSi (aPaid a) d) + (aAbout a d 3)))), (0, .ref (p 0)), (1, .ref (q 0)), (2, .int (nI ((zFw a 0).2))), (3, .int (iZ ((zFw a 0).1))), (4, .int (nI (zPop (zFw a 0).2 12))), (5, .int (nI (aSold a))), (6, .int (nI (zSum (fun b => if (zFw a 0).2.testBit b = true then zPr a b else 0) (zNb a)))), (12, .ref x315), (13, .int (nI j6))] rfl ?_
                    refine z_goto C 226 dX3_isSame_429 (by decide) ?_
                    refine zW.pick (lv' := [(0, .ref (p 0)), (1, .ref (q 0)), (2, .int (nI ((zFw a 0).2))), (3, .int (iZ ((zFw a 0).1))), (4, .int (nI (zPop (zFw a 0).2 12))), (5, .int (nI (aSold a))), (6, .int (nI (zSum (fun b => if (zFw a 0).2.testBit b = true then zPr a b else 0) (zNb a)))), (7, .int (iZ ((zSi (aPaid a) d) + (aAbout a d 3)))), (8, .int (iZ ((zSi (aProf a) d) + (aAbout a d 4)))), (9, .int (nI (d + 1)))]) [3, 4, 5, 6, 7, 8, 9, 2, 1, 0] rfl ?_
                    refine zW.lve (lv' := [(0, .ref (p 0)), (1, .ref (q 0)), (2, .int (nI ((zFw a 0).2))), (3, .int (iZ ((zFw a 0).1))), (4, .int (nI (zPop (zFw a 0).2 12))), (5, .int (nI (aSold a))), (6, .int (nI (zSum (fun b => if (zFw a 0).2.testBit b = true then zPr a b else 0) (zNb a)))), (7, .int (iZ (zSi (aPaid a) (d + 1)))), (8, .int (iZ (zSi (aProf a) (d + 1)))), (9, .int (nI (d + 1)))]) (rfl) ?_
                    refine zW.wid (k := 12 + (d + 1)) (n := 96 + 6 * (d + 1)) (by omega) (by omega) ?_
                    exact ih226 (d + 1) sm363 (by omega)
                  | succ kj6 ih377 =>
                    intro j6 hj6k
                    refine z_iload C dX3_isSame_377 11 rfl ?_
                    refine z_bipush C (nI 6) dX3_isSame_379 (by decide) ?_
                    refine z_icmp_ge C 408 dX3_isSame_381 (by decide) (zle_NN (by omega) (by omega)) (fun h9 => absurd h9 (by omega)) (fun c_381 => ?_)
                    refine z_aload_n C dX3_isSame_384 1 rfl ?_
                    refine z_iload C dX3_isSame_385 9 rfl ?_
                    refine z_iload C dX3_isSame_387 11 rfl ?_
                    refine z_callV C (zM.fl (c_X2_about l g q a bs wb pd gw ha hs d j6 (by omega) (by omega)) (wS g p a sm363 ++ [(x315, .inl (zI g, 6, .inl (zRw 6 (aAbout a d))))])) (cwV 2 C.ts gX3_isSame_X2_about rfl rfl rfl (by decide +kernel) ⟨Nat.le_of_ble_eq_true rfl, Nat.le_of_ble_eq_true rfl⟩) (zapp_l wB_o) rfl rfl rfl (Nat.le_of_ble_eq_true rfl) dX3_isSame_389 ⟨by dsimp only; omega, by dsimp only; omega⟩ ?_
                    rintro _ _ ⟨_, ⟨rfl, rfl⟩, rfl⟩
                    refine zW.eqst (st2 := [.int (iZ (aAbout a d j6))]) rfl ?_
                    refine z_aload C dX3_isSame_392 10 rfl ?_
                    refine z_iload C dX3_isSame_394 11 rfl ?_
                    refine z_ialdN C (20 + (wS g p a sm363).length) (zapp_B zapp_e) (by omega) (by decide) dX3_isSame_396 (v := iZ (aAbout a d j6)) (zRw_at (by omega)) ?_
                    refine z_icmp_eq C 402 dX3_isSame_397 (by decide) Iff.rfl (fun c_397 => ?_) (fun h9 => absurd rfl h9)
                    refine z_iinc C dX3_isSame_402 11 (nI (j6 + 1)) rfl (nI_add j6 1) (by decide) [(13, .int (nI (j6 + 1))), (0, .ref (p 0)), (1, .ref (q 0)), (2, .int (nI ((zFw a 0).2))), (3, .int (iZ ((zFw a 0).1))), (4, .int (nI (zPop (zFw a 0).2 12))), (5, .int (nI (aSold a))), (6, .int (nI (zSum (fun b => if (zFw a 0).2.testBit b = true then zPr a b else 0) (zNb a)))), (7, .int (iZ (zSi (aPaid a) d))), (8, .int (iZ (zSi (aProf a) d))), (9, .int (nI d)), (12, .ref x315)] rfl ?_
                    refine z_goto C 377 dX3_isSame_405 (by decide) ?_
                    refine zW.pick (lv' := [(0, .ref (p 0)), (1, .ref (q 0)), (2, .int (nI ((zFw a 0).2))), (3, .int (iZ ((zFw a 0).1))), (4, .int (nI (zPop (zFw a 0).2 12))), (5, .int (nI (aSold a))), (6, .int (nI (zSum (fun b => if (zFw a 0).2.testBit b = true then zPr a b else 0) (zNb a)))), (7, .int (iZ (zSi (aPaid a) d))), (8, .int (iZ (zSi (aProf a) d))), (9, .int (nI d)), (12, .ref x315), (13, .int (nI (j6 + 1)))]) [1, 2, 3, 4, 5, 6, 7, 8, 9, 10, 11, 0] rfl ?_
                    exact ih377 (j6 + 1) (by omega)
                exact hlp377 (6) 0 (by omega)
              · skip
                refine z_iconst C (nI 1) dX3_isSame_329 (by decide) ?_
                refine z_goto C 334 dX3_isSame_330 (by decide) ?_
                refine z_iastN C (20 + (wS g p a (zT3 (zFw a (2 ^ d)))).length) (zapp_B zapp_e) (by omega) (by decide) dX3_isSame_334 (zset_B zapp_set) ?_
                refine z_dup C dX3_isSame_335 rfl ?_
                refine z_iconst C (nI 1) dX3_isSame_336 (by decide) ?_
                refine z_iload C dX3_isSame_337 11 rfl ?_
                refine z_iastN C (20 + (wS g p a (zT3 (zFw a (2 ^ d)))).length) (zapp_B zapp_e) (by omega) (by decide) dX3_isSame_339 (zset_B zapp_set) ?_
                refine z_dup C dX3_isSame_340 rfl ?_
                refine z_iconst C (nI 2) dX3_isSame_341 (by decide) ?_
                refine z_aload_n C dX3_isSame_342 1 rfl ?_
                refine z_iload C dX3_isSame_343 10 rfl ?_
                refine z_callV C (zM.fm (c_X3_won l g p a (zT3 (zFw a (2 ^ d))) ha d (by omega)) (wB g q a (zG0 a) bs wb pd gw) [(x315, .inl (zI g, 6, .inl (upd (upd (fun _ => nI 0) 0 (nI 1)) 1 (nI (zLof a d)))))]) (cwV 1 C.ts gX3_isSame_X3_won rfl rfl rfl (by decide +kernel) ⟨Nat.le_of_ble_eq_true rfl, Nat.le_of_ble_eq_true rfl⟩) (zapp_B (zapp_l wS_o)) rfl rfl rfl (Nat.le_of_ble_eq_true rfl) dX3_isSame_345 ⟨by dsimp only; omega, by dsimp only; omega⟩ ?_
                rintro _ _ ⟨_, ⟨rfl, rfl⟩, rfl⟩
                refine zW.eqst (st2 := [.int (iZ (aWin a d)), .int (nI 2), .ref x315, .ref x315]) rfl ?_
                refine z_iastN C (20 + (wS g p a (zT3 (zFw a 0))).length) (zapp_B zapp_e) (by omega) (by decide) dX3_isSame_348 (zset_B zapp_set) ?_
                refine z_dup C dX3_isSame_349 rfl ?_
                refine z_iconst C (nI 3) dX3_isSame_350 (by decide) ?_
                refine z_aload_n C dX3_isSame_351 1 rfl ?_
                refine z_iload C dX3_isSame_352 10 rfl ?_
                refine z_callV C (zM.fm (c_X3_pays l g p a (zT3 (zFw a 0)) ha d (by omega)) (wB g q a (zG0 a) bs wb pd gw) [(x315, .inl (zI g, 6, .inl (upd (upd (upd (fun _ => nI 0) 0 (nI 1)) 1 (nI (zLof a d))) 2 (iZ (aWin a d)))))]) (cwV 1 C.ts gX3_isSame_X3_pays rfl rfl rfl (by decide +kernel) ⟨Nat.le_of_ble_eq_true rfl, Nat.le_of_ble_eq_true rfl⟩) (zapp_B (zapp_l wS_o)) rfl rfl rfl (Nat.le_of_ble_eq_true rfl) dX3_isSame_354 ⟨by dsimp only; omega, by dsimp only; omega⟩ ?_
                rintro _ _ ⟨_, ⟨rfl, sm354, rfl⟩, rfl⟩
                refine zW.eqst (st2 := [.int (iZ (aPaid a d)), .int (nI 3), .ref x315, .ref x315]) rfl ?_
                refine z_iastN C (20 + (wS g p a sm354).length) (zapp_B zapp_e) (by omega) (by decide) dX3_isSame_357 (zset_B zapp_set) ?_
                refine z_dup C dX3_isSame_358 rfl ?_
                refine z_iconst C (nI 4) dX3_isSame_359 (by decide) ?_
                refine z_aload_n C dX3_isSame_360 1 rfl ?_
                refine z_iload C dX3_isSame_361 10 rfl ?_
                refine z_callV C (zM.fm (c_X3_profit l g p a sm354 ha d (by omega)) (wB g q a (zG0 a) bs wb pd gw) [(x315, .inl (zI g, 6, .inl (upd (upd (upd (upd (fun _ => nI 0) 0 (nI 1)) 1 (nI (zLof a d))) 2 (iZ (aWin a d))) 3 (iZ (aPaid a d)))))]) (cwV 1 C.ts gX3_isSame_X3_profit rfl rfl rfl (by decide +kernel) ⟨Nat.le_of_ble_eq_true rfl, Nat.le_of_ble_eq_true rfl⟩) (zapp_B (zapp_l wS_o)) rfl rfl rfl (Nat.le_of_ble_eq_true rfl) dX3_isSame_363 ⟨by dsimp only; omega, by dsimp only; omega⟩ ?_
                rintro _ _ ⟨_, ⟨rfl, sm363, rfl⟩, rfl⟩
                refine zW.eqst (st2 := [.int (iZ (aProf a d)), .int (nI 4), .ref x315, .ref x315]) rfl ?_
                refine z_iastN C (20 + (wS g p a sm363).length) (zapp_B zapp_e) (by omega) (by decide) dX3_isSame_366 (zset_B zapp_set) ?_
                refine z_dup C dX3_isSame_367 rfl ?_
                refine z_iconst C (nI 5) dX3_isSame_368 (by decide) ?_
                refine z_iload C dX3_isSame_369 0 rfl ?_
                refine z_iastN C (20 + (wS g p a sm363).length) (zapp_B zapp_e) (by omega) (by decide) dX3_isSame_371 (zset_B zapp_set) ?_
                refine zW.eqw (congrArg (fun f9 => wB g q a (zG0 a) bs wb pd gw ++ (wS g p a sm363 ++ [(x315, .inl (zI g, 6, .inl f9))])) (show upd (upd (upd (upd (upd (upd (fun _ => nI 0) 0 (nI 1)) 1 (nI (zLof a d))) 2 (iZ (aWin a d))) 3 (iZ (aPaid a d))) 4 (iZ (aProf a d))) 5 (iZ ((zFw a (2 ^ d)).1)) = zRw 6 (aAbout a d) from zRw6_of (by show nI 1 = iZ (if zIn a d = true then 1 else 0); rw [if_pos (by simpa using c_326)]; rfl) rfl rfl rfl rfl (by show _ = iZ (zGw a 0 d); unfold zGw; rw [if_pos (by omega), Nat.zero_or]))) ?_
                refine zW.eqw (ws2 := wB g q a (zG0 a) bs wb pd gw ++ (wS g p a sm363 ++ [(x315, .inl (zI g, 6, .inl (zRw 6 (aAbout a d))))])) rfl ?_
                refine z_astore C dX3_isSame_372 (by decide) [(12, .ref x315), (11, .int (iZ ((zFw a (2 ^ d)).1))), (0, .ref (p 0)), (1, .ref (q 0)), (2, .int (nI ((zFw a 0).2))), (3, .int (iZ ((zFw a 0).1))), (4, .int (nI (zPop (zFw a 0).2 12))), (5, .int (nI (aSold a))), (6, .int (nI (zSum (fun b => if (zFw a 0).2.testBit b = true then zPr a b else 0) (zNb a)))), (7, .int (iZ (zSi (aPaid a) d))), (8, .int (iZ (zSi (aProf a) d))), (9, .int (nI d)), (10, .int (nI (zLof a d)))] rfl ?_
                refine z_iconst C (nI 0) dX3_isSame_374 (by decide) ?_
                refine z_istore C dX3_isSame_375 (by decide) [(13, .int (nI 0)), (12, .ref x315), (11, .int (iZ ((zFw a (2 ^ d)).1))), (0, .ref (p 0)), (1, .ref (q 0)), (2, .int (nI ((zFw a 0).2))), (3, .int (iZ ((zFw a 0).1))), (4, .int (nI (zPop (zFw a 0).2 12))), (5, .int (nI (aSold a))), (6, .int (nI (zSum (fun b => if (zFw a 0).2.testBit b = true then zPr a b else 0) (zNb a)))), (7, .int (iZ (zSi (aPaid a) d))), (8, .int (iZ (zSi (aProf a) d))), (9, .int (nI d)), (10, .int (nI (zLof a d)))] rfl ?_
                refine zW.pick (lv' := [(0, .ref (p 0)), (1, .ref (q 0)), (2, .int (nI ((zFw a 0).2))), (3, .int (iZ ((zFw a 0).1))), (4, .int (nI (zPop (zFw a 0).2 12))), (5, .int (nI (aSold a))), (6, .int (nI (zSum (fun b => if (zFw a 0).2.testBit b = true then zPr a b else 0) (zNb a)))), (7, .int (iZ (zSi (aPaid a) d))), (8, .int (iZ (zSi (aProf a) d))), (9, .int (nI d)), (12, .ref x315), (13, .int (nI 0))]) [3, 4, 5, 6, 7, 8, 9, 10, 11, 12, 1, 0] rfl ?_
                have hlp377 : ∀ (kj6 j6 : Nat), j6 + kj6 = 6 → zW g l ({ frames := 13, cells := 26, slots := 159, locals := 315 }) E (zMQ g E (zPie (bI true) (fun _ => True)) 26 159) 15 (12 + d + 1) (96 + 6 * d + 6) (wB g q a (zG0 a) bs wb pd gw ++ (wS g p a sm363 ++ [(x315, .inl (zI g, 6, .inl (zRw 6 (aAbout a d))))])) [(0, .ref (p 0)), (1, .ref (q 0)), (2, .int (nI ((zFw a 0).2))), (3, .int (iZ ((zFw a 0).1))), (4, .int (nI (zPop (zFw a 0).2 12))), (5, .int (nI (aSold a))), (6, .int (nI (zSum (fun b => if (zFw a 0).2.testBit b = true then zPr a b else 0) (zNb a)))), (7, .int (iZ (zSi (aPaid a) d))), (8, .int (iZ (zSi (aProf a) d))), (9, .int (nI d)), (12, .ref x315), (13, .int (nI j6))] [] 377 := by
                  intro kj6
                  induction kj6 with
                  | zero =>
                    intro j6 hj6k
                    refine z_iload C dX3_isSame_377 11 rfl ?_
                    refine z_bipush C (nI 6) dX3_isSame_379 (by decide) ?_
                    refine z_icmp_ge C 408 dX3_isSame_381 (by decide) (zle_NN (by omega) (by omega)) (fun c_381 => ?_) (fun h9 => absurd (by omega) h9)
                    refine z_iload C dX3_isSame_408 7 rfl ?_
                    refine z_aload C dX3_isSame_410 10 rfl ?_
                    refine z_iconst C (nI 3) dX3_isSame_412 (by decide) ?_
                    refine z_ialdN C (20 + (wS g p a sm363).length) (zapp_B zapp_e) (by omega) (by decide) dX3_isSame_413 (v := iZ (aAbout a d 3)) (zRw_at (by omega)) ?_
                    refine z_iadd C dX3_isSame_414 (v := iZ ((zSi (aPaid a) d) + (aAbout a d 3))) (iZ_add (zSi (aPaid a) d) (aAbout a d 3)) ?_
                    refine z_istore C dX3_isSame_415 (by decide) [(7, .int (iZ ((zSi (aPaid a) d) + (aAbout a d 3)))), (0, .ref (p 0)), (1, .ref (q 0)), (2, .int (nI ((zFw a 0).2))), (3, .int (iZ ((zFw a 0).1))), (4, .int (nI (zPop (zFw a 0).2 12))), (5, .int (nI (aSold a))), (6, .int (nI (zSum (fun b => if (zFw a 0).2.testBit b = true then zPr a b else 0) (zNb a)))), (8, .int (iZ (zSi (aProf a) d))), (9, .int (nI d)), (12, .ref x315), (13, .int (nI j6))] rfl ?_
                    refine z_iload C dX3_isSame_417 8 rfl ?_
                    refine z_aload C dX3_isSame_419 10 rfl ?_
                    refine z_iconst C (nI 4) dX3_isSame_421 (by decide) ?_
                    refine z_ialdN C (20 + (wS g p a sm363).length) (zapp_B zapp_e) (by omega) (by decide) dX3_isSame_422 (v := iZ (aAbout a d 4)) (zRw_at (by omega)) ?_
                    refine z_iadd C dX3_isSame_423 (v := iZ ((zSi (aProf a) d) + (aAbout a d 4))) (iZ_add (zSi (aProf a) d) (aAbout a d 4)) ?_
                    refine z_istore C dX3_isSame_424 (by decide) [(8, .int (iZ ((zSi (aProf a) d) + (aAbout a d 4)))), (7, .int (iZ ((zSi (aPaid a) d) + (aAbout a d 3)))), (0, .ref (p 0)), (1, .ref (q 0)), (2, .int (nI ((zFw a 0).2))), (3, .int (iZ ((zFw a 0).1))), (4, .int (nI (zPop (zFw a 0).2 12))), (5, .int (nI (aSold a))), (6, .int (nI (zSum (fun b => if (zFw a 0).2.testBit b = true then zPr a b else 0) (zNb a)))), (9, .int (nI d)), (12, .ref x315), (13, .int (nI j6))] rfl ?_
                    refine zW.fewer [] (wB g q a (zG0 a) bs wb pd gw ++ (wS g p a sm363)) [(x315, .inl (zI g, 6, .inl (zRw 6 (aAbout a d))))] (List.append_assoc _ _ _).symm ?_
                    refine z_iinc C dX3_isSame_426 9 (nI (d + 1)) rfl (nI_add d 1) (by decide) [(9, .int (nI (d + 1))), (8, .int (iZ ((zSi (aProf a) d) + (aAbout a d 4)))), (7, .int (iZ ((zSi (aPaid a) d) + (aAbout a d 3)))), (0, .ref (p 0)), (1, .ref (q 0)), (2, .int (nI ((zFw a 0).2))), (3, .int (iZ ((zFw a 0).1))), (4, .int (nI (zPop (zFw a 0).2 12))), (5, .int (nI (aSold a))), (6, .int (nI (zSum (fun b => if (zFw a 0).2.testBit b = true then zPr a b else 0) (zNb a)))), (12, .ref x315), (13, .int (nI j6))] rfl ?_
                    refine z_goto C 226 dX3_isSame_429 (by decide) ?_
                    refine zW.pick (lv' := [(0, .ref (p 0)), (1, .ref (q 0)), (2, .int (nI ((zFw a 0).2))), (3, .int (iZ ((zFw a 0).1))), (4, .int (nI (zPop (zFw a 0).2 12))), (5, .int (nI (aSold a))), (6, .int (nI (zSum (fun b => if (zFw a 0).2.testBit b = true then zPr a b else 0) (zNb a)))), (7, .int (iZ ((zSi (aPaid a) d) + (aAbout a d 3)))), (8, .int (iZ ((zSi (aProf a) d) + (aAbout a d 4)))), (9, .int (nI (d + 1)))]) [3, 4, 5, 6, 7, 8, 9, 2, 1, 0] rfl ?_
                    refine zW.lve (lv' := [(0, .ref (p 0)), (1, .ref (q 0)), (2, .int (nI ((zFw a 0).2))), (3, .int (iZ ((zFw a 0).1))), (4, .int (nI (zPop (zFw a 0).2 12))), (5, .int (nI (aSold a))), (6, .int (nI (zSum (fun b => if (zFw a 0).2.testBit b = true then zPr a b else 0) (zNb a)))), (7, .int (iZ (zSi (aPaid a) (d + 1)))), (8, .int (iZ (zSi (aProf a) (d + 1)))), (9, .int (nI (d + 1)))]) (rfl) ?_
                    refine zW.wid (k := 12 + (d + 1)) (n := 96 + 6 * (d + 1)) (by omega) (by omega) ?_
                    exact ih226 (d + 1) sm363 (by omega)
                  | succ kj6 ih377 =>
                    intro j6 hj6k
                    refine z_iload C dX3_isSame_377 11 rfl ?_
                    refine z_bipush C (nI 6) dX3_isSame_379 (by decide) ?_
                    refine z_icmp_ge C 408 dX3_isSame_381 (by decide) (zle_NN (by omega) (by omega)) (fun h9 => absurd h9 (by omega)) (fun c_381 => ?_)
                    refine z_aload_n C dX3_isSame_384 1 rfl ?_
                    refine z_iload C dX3_isSame_385 9 rfl ?_
                    refine z_iload C dX3_isSame_387 11 rfl ?_
                    refine z_callV C (zM.fl (c_X2_about l g q a bs wb pd gw ha hs d j6 (by omega) (by omega)) (wS g p a sm363 ++ [(x315, .inl (zI g, 6, .inl (zRw 6 (aAbout a d))))])) (cwV 2 C.ts gX3_isSame_X2_about rfl rfl rfl (by decide +kernel) ⟨Nat.le_of_ble_eq_true rfl, Nat.le_of_ble_eq_true rfl⟩) (zapp_l wB_o) rfl rfl rfl (Nat.le_of_ble_eq_true rfl) dX3_isSame_389 ⟨by dsimp only; omega, by dsimp only; omega⟩ ?_
                    rintro _ _ ⟨_, ⟨rfl, rfl⟩, rfl⟩
                    refine zW.eqst (st2 := [.int (iZ (aAbout a d j6))]) rfl ?_
                    refine z_aload C dX3_isSame_392 10 rfl ?_
                    refine z_iload C dX3_isSame_394 11 rfl ?_
                    refine z_ialdN C (20 + (wS g p a sm363).length) (zapp_B zapp_e) (by omega) (by decide) dX3_isSame_396 (v := iZ (aAbout a d j6)) (zRw_at (by omega)) ?_
                    refine z_icmp_eq C 402 dX3_isSame_397 (by decide) Iff.rfl (fun c_397 => ?_) (fun h9 => absurd rfl h9)
                    refine z_iinc C dX3_isSame_402 11 (nI (j6 + 1)) rfl (nI_add j6 1) (by decide) [(13, .int (nI (j6 + 1))), (0, .ref (p 0)), (1, .ref (q 0)), (2, .int (nI ((zFw a 0).2))), (3, .int (iZ ((zFw a 0).1))), (4, .int (nI (zPop (zFw a 0).2 12))), (5, .int (nI (aSold a))), (6, .int (nI (zSum (fun b => if (zFw a 0).2.testBit b = true then zPr a b else 0) (zNb a)))), (7, .int (iZ (zSi (aPaid a) d))), (8, .int (iZ (zSi (aProf a) d))), (9, .int (nI d)), (12, .ref x315)] rfl ?_
                    refine z_goto C 377 dX3_isSame_405 (by decide) ?_
                    refine zW.pick (lv' := [(0, .ref (p 0)), (1, .ref (q 0)), (2, .int (nI ((zFw a 0).2))), (3, .int (iZ ((zFw a 0).1))), (4, .int (nI (zPop (zFw a 0).2 12))), (5, .int (nI (aSold a))), (6, .int (nI (zSum (fun b => if (zFw a 0).2.testBit b = true then zPr a b else 0) (zNb a)))), (7, .int (iZ (zSi (aPaid a) d))), (8, .int (iZ (zSi (aProf a) d))), (9, .int (nI d)), (12, .ref x315), (13, .int (nI (j6 + 1)))]) [1, 2, 3, 4, 5, 6, 7, 8, 9, 10, 11, 0] rfl ?_
                    exact ih377 (j6 + 1) (by omega)
                exact hlp377 (6) 0 (by omega)
            | succ kj ih253 =>
              intro j hjk
              have hcl := zCnt_le (fun b => decide (zOw a b = d) && zGo a b == 0) j
              refine z_iload C dX3_isSame_253 13 rfl ?_
              refine z_iload C dX3_isSame_255 12 rfl ?_
              refine z_icmp_ge C 297 dX3_isSame_257 (by decide) (zle_NN (by omega) (by omega)) (fun h9 => absurd h9 (by omega)) (fun c_257 => ?_)
              refine z_aload C dX3_isSame_260 11 rfl ?_
              refine z_iload C dX3_isSame_262 13 rfl ?_
              refine z_aald C (20 + 3) (zapp_B wS_bi) (by omega) (by omega) dX3_isSame_264 (zPt_at (by omega)) ?_
              refine z_astore C dX3_isSame_265 (by decide) [(14, .ref (p (4 + j))), (0, .ref (p 0)), (1, .ref (q 0)), (2, .int (nI ((zFw a 0).2))), (3, .int (iZ ((zFw a 0).1))), (4, .int (nI (zPop (zFw a 0).2 12))), (5, .int (nI (aSold a))), (6, .int (nI (zSum (fun b => if (zFw a 0).2.testBit b = true then zPr a b else 0) (zNb a)))), (7, .int (iZ (zSi (aPaid a) d))), (8, .int (iZ (zSi (aProf a) d))), (9, .int (nI d)), (10, .int (nI (zCnt (fun b => decide (zOw a b = d) && zGo a b == 0) j))), (11, .ref (p 3)), (12, .int (nI (zNb a))), (13, .int (nI j))] rfl ?_
              refine z_iload C dX3_isSame_267 11 rfl ?_
              refine z_aload C dX3_isSame_269 0 rfl ?_
              refine z_iconst C (nI 0) dX3_isSame_271 (by decide) ?_
              refine z_ialdN C (20 + (4 + j)) (zapp_B (wS_row (b := j) (by omega))) (by omega) (by decide) dX3_isSame_272 (v := nI (zOw a j)) rfl ?_
              have f_272b := ha.ow (b := j) (by omega)
              refine z_iload C dX3_isSame_273 10 rfl ?_
              refine z_icmp_ne C 287 dX3_isSame_275 (by decide) (zeq_NN (by omega) (by omega)) (fun c_275 => ?_) (fun c_275 => ?_)
              · skip
                refine z_iconst C (nI 0) dX3_isSame_287 (by decide) ?_
                refine z_iadd C dX3_isSame_288 (v := nI (zCnt (fun b => decide (zOw a b = d) && zGo a b == 0) (j + 1))) ((nI_add _ _).trans (congrArg nI (zLf_n c_275).symm)) ?_
                refine z_istore C dX3_isSame_289 (by decide) [(10, .int (nI (zCnt (fun b => decide (zOw a b = d) && zGo a b == 0) (j + 1)))), (14, .ref (p (4 + j))), (0, .ref (p 0)), (1, .ref (q 0)), (2, .int (nI ((zFw a 0).2))), (3, .int (iZ ((zFw a 0).1))), (4, .int (nI (zPop (zFw a 0).2 12))), (5, .int (nI (aSold a))), (6, .int (nI (zSum (fun b => if (zFw a 0).2.testBit b = true then zPr a b else 0) (zNb a)))), (7, .int (iZ (zSi (aPaid a) d))), (8, .int (iZ (zSi (aProf a) d))), (9, .int (nI d)), (11, .ref (p 3)), (12, .int (nI (zNb a))), (13, .int (nI j))] rfl ?_
                refine z_iinc C dX3_isSame_291 14 (nI (j + 1)) rfl (nI_add j 1) (by decide) [(13, .int (nI (j + 1))), (10, .int (nI (zCnt (fun b => decide (zOw a b = d) && zGo a b == 0) (j + 1)))), (14, .ref (p (4 + j))), (0, .ref (p 0)), (1, .ref (q 0)), (2, .int (nI ((zFw a 0).2))), (3, .int (iZ ((zFw a 0).1))), (4, .int (nI (zPop (zFw a 0).2 12))), (5, .int (nI (aSold a))), (6, .int (nI (zSum (fun b => if (zFw a 0).2.testBit b = true then zPr a b else 0) (zNb a)))), (7, .int (iZ (zSi (aPaid a) d))), (8, .int (iZ (zSi (aProf a) d))), (9, .int (nI d)), (11, .ref (p 3)), (12, .int (nI (zNb a)))] rfl ?_
                refine z_goto C 253 dX3_isSame_294 (by decide) ?_
                refine zW.pick (lv' := [(0, .ref (p 0)), (1, .ref (q 0)), (2, .int (nI ((zFw a 0).2))), (3, .int (iZ ((zFw a 0).1))), (4, .int (nI (zPop (zFw a 0).2 12))), (5, .int (nI (aSold a))), (6, .int (nI (zSum (fun b => if (zFw a 0).2.testBit b = true then zPr a b else 0) (zNb a)))), (7, .int (iZ (zSi (aPaid a) d))), (8, .int (iZ (zSi (aProf a) d))), (9, .int (nI d)), (10, .int (nI (zCnt (fun b => decide (zOw a b = d) && zGo a b == 0) (j + 1)))), (11, .ref (p 3)), (12, .int (nI (zNb a))), (13, .int (nI (j + 1)))]) [3, 4, 5, 6, 7, 8, 9, 10, 11, 12, 1, 13, 14, 0] rfl ?_
                exact ih253 (j + 1) (by omega)
              · skip
                refine z_iconst C (nI 1) dX3_isSame_278 (by decide) ?_
                refine z_aload C dX3_isSame_279 0 rfl ?_
                refine z_iconst C (nI 4) dX3_isSame_281 (by decide) ?_
                refine z_ialdN C (20 + (4 + j)) (zapp_B (wS_row (b := j) (by omega))) (by omega) (by decide) dX3_isSame_282 (v := nI (zGo a j)) rfl ?_
                have f_282b := ha.go (b := j) (by omega)
                refine z_isub C dX3_isSame_283 (v := nI (1 - zGo a j)) (pk_sub (by omega)) ?_
                refine z_goto C 288 dX3_isSame_284 (by decide) ?_
                refine z_iadd C dX3_isSame_288 (v := nI (zCnt (fun b => decide (zOw a b = d) && zGo a b == 0) (j + 1))) ((nI_add _ _).trans (congrArg nI (zLf_y c_275 (by omega)).symm)) ?_
                refine z_istore C dX3_isSame_289 (by decide) [(10, .int (nI (zCnt (fun b => decide (zOw a b = d) && zGo a b == 0) (j + 1)))), (14, .ref (p (4 + j))), (0, .ref (p 0)), (1, .ref (q 0)), (2, .int (nI ((zFw a 0).2))), (3, .int (iZ ((zFw a 0).1))), (4, .int (nI (zPop (zFw a 0).2 12))), (5, .int (nI (aSold a))), (6, .int (nI (zSum (fun b => if (zFw a 0).2.testBit b = true then zPr a b else 0) (zNb a)))), (7, .int (iZ (zSi (aPaid a) d))), (8, .int (iZ (zSi (aProf a) d))), (9, .int (nI d)), (11, .ref (p 3)), (12, .int (nI (zNb a))), (13, .int (nI j))] rfl ?_
                refine z_iinc C dX3_isSame_291 14 (nI (j + 1)) rfl (nI_add j 1) (by decide) [(13, .int (nI (j + 1))), (10, .int (nI (zCnt (fun b => decide (zOw a b = d) && zGo a b == 0) (j + 1)))), (14, .ref (p (4 + j))), (0, .ref (p 0)), (1, .ref (q 0)), (2, .int (nI ((zFw a 0).2))), (3, .int (iZ ((zFw a 0).1))), (4, .int (nI (zPop (zFw a 0).2 12))), (5, .int (nI (aSold a))), (6, .int (nI (zSum (fun b => if (zFw a 0).2.testBit b = true then zPr a b else 0) (zNb a)))), (7, .int (iZ (zSi (aPaid a) d))), (8, .int (iZ (zSi (aProf a) d))), (9, .int (nI d)), (11, .ref (p 3)), (12, .int (nI (zNb a)))] rfl ?_
                refine z_goto C 253 dX3_isSame_294 (by decide) ?_
                refine zW.pick (lv' := [(0, .ref (p 0)), (1, .ref (q 0)), (2, .int (nI ((zFw a 0).2))), (3, .int (iZ ((zFw a 0).1))), (4, .int (nI (zPop (zFw a 0).2 12))), (5, .int (nI (aSold a))), (6, .int (nI (zSum (fun b => if (zFw a 0).2.testBit b = true then zPr a b else 0) (zNb a)))), (7, .int (iZ (zSi (aPaid a) d))), (8, .int (iZ (zSi (aProf a) d))), (9, .int (nI d)), (10, .int (nI (zCnt (fun b => decide (zOw a b = d) && zGo a b == 0) (j + 1)))), (11, .ref (p 3)), (12, .int (nI (zNb a))), (13, .int (nI (j + 1)))]) [3, 4, 5, 6, 7, 8, 9, 10, 11, 12, 1, 13, 14, 0] rfl ?_
                exact ih253 (j + 1) (by omega)
          exact hlp253 (zNb a) 0 (by omega)
      exact hlp226 (zNd a) 0 (zT3 (zFw a 0)) (by omega)
    | succ k ih26 =>
      intro i hik
      have hdl : (zFw a 0).2 / 2 ^ i ≤ (zFw a 0).2 := Nat.div_le_self _ _
      refine z_iload C dX3_isSame_26 7 rfl ?_
      refine z_aload_n C dX3_isSame_28 0 rfl ?_
      refine z_get C inX3_isSame_X3 (20 + 0) (zapp_B wS_o) rfl 2 (by decide) (C.w 3 rfl) rfl dX3_isSame_29 ?_
      refine z_alenR C (20 + 3) (zapp_B wS_bi) dX3_isSame_32 ?_
      refine z_icmp_ge C 217 dX3_isSame_33 (by decide) (zle_NN (by omega) (by omega)) (fun h9 => absurd h9 (by omega)) (fun c_33 => ?_)
      refine z_bipush C (nI 8) dX3_isSame_36 (by decide) ?_
      refine z_newaI C (C.w 4 rfl) (n := 8) (by omega) (by dsimp only; omega) (by dsimp only; omega) dX3_isSame_38 (fun x38 => ?_)
      refine zW.eqw (ws2 := wB g q a (zG0 a) bs wb pd gw ++ (wS g p a (zT3 (zFw a 0)) ++ [(x38, .inl (zI g, 8, .inl (fun _ => nI 0)))])) (List.append_assoc _ _ _) ?_
      refine z_dup C dX3_isSame_40 rfl ?_
      refine z_iconst C (nI 0) dX3_isSame_41 (by decide) ?_
      refine z_aload_n C dX3_isSame_42 0 rfl ?_
      refine z_get C inX3_isSame_X3 (20 + 0) (zapp_B (zapp_l wS_o)) rfl 2 (by decide) (C.w 3 rfl) rfl dX3_isSame_43 ?_
      refine z_iload C dX3_isSame_46 7 rfl ?_
      refine z_aald C (20 + 3) (zapp_B (zapp_l wS_bi)) (by omega) (by omega) dX3_isSame_48 (zPt_at (by omega)) ?_
      refine z_iconst C (nI 0) dX3_isSame_49 (by decide) ?_
      refine z_ialdN C (20 + (4 + i)) (zapp_B (zapp_l (wS_row (b := i) (by omega)))) (by omega) (by decide) dX3_isSame_50 (v := nI (zOw a i)) rfl ?_
      have f_50b := ha.ow (b := i) (by omega)
      refine z_iastN C (20 + (wS g p a (zT3 (zFw a 0))).length) (zapp_B zapp_e) (by omega) (by decide) dX3_isSame_51 (zset_B zapp_set) ?_
      refine z_dup C dX3_isSame_52 rfl ?_
      refine z_iconst C (nI 1) dX3_isSame_53 (by decide) ?_
      refine z_aload_n C dX3_isSame_54 0 rfl ?_
      refine z_get C inX3_isSame_X3 (20 + 0) (zapp_B (zapp_l wS_o)) rfl 2 (by decide) (C.w 3 rfl) rfl dX3_isSame_55 ?_
      refine z_iload C dX3_isSame_58 7 rfl ?_
      refine z_aald C (20 + 3) (zapp_B (zapp_l wS_bi)) (by omega) (by omega) dX3_isSame_60 (zPt_at (by omega)) ?_
      refine z_iconst C (nI 1) dX3_isSame_61 (by decide) ?_
      refine z_ialdN C (20 + (4 + i)) (zapp_B (zapp_l (wS_row (b := i) (by omega)))) (by omega) (by decide) dX3_isSame_62 (v := nI (zBu a i)) rfl ?_
      have f_62b := ha.bu8 (b := i) (by omega)
      refine z_iastN C (20 + (wS g p a (zT3 (zFw a 0))).length) (zapp_B zapp_e) (by omega) (by decide) dX3_isSame_63 (zset_B zapp_set) ?_
      refine z_dup C dX3_isSame_64 rfl ?_
      refine z_iconst C (nI 2) dX3_isSame_65 (by decide) ?_
      refine z_aload_n C dX3_isSame_66 0 rfl ?_
      refine z_get C inX3_isSame_X3 (20 + 0) (zapp_B (zapp_l wS_o)) rfl 2 (by decide) (C.w 3 rfl) rfl dX3_isSame_67 ?_
      refine z_iload C dX3_isSame_70 7 rfl ?_
      refine z_aald C (20 + 3) (zapp_B (zapp_l wS_bi)) (by omega) (by omega) dX3_isSame_72 (zPt_at (by omega)) ?_
      refine z_iconst C (nI 2) dX3_isSame_73 (by decide) ?_
      refine z_ialdN C (20 + (4 + i)) (zapp_B (zapp_l (wS_row (b := i) (by omega)))) (by omega) (by decide) dX3_isSame_74 (v := nI (zPr a i)) rfl ?_
      have f_74b := ha.pr (b := i) (by omega)
      refine z_iastN C (20 + (wS g p a (zT3 (zFw a 0))).length) (zapp_B zapp_e) (by omega) (by decide) dX3_isSame_75 (zset_B zapp_set) ?_
      refine z_dup C dX3_isSame_76 rfl ?_
      refine z_iconst C (nI 3) dX3_isSame_77 (by decide) ?_
      refine z_aload_n C dX3_isSame_78 0 rfl ?_
      refine z_get C inX3_isSame_X3 (20 + 0) (zapp_B (zapp_l wS_o)) rfl 2 (by decide) (C.w 3 rfl) rfl dX3_isSame_79 ?_
      refine z_iload C dX3_isSame_82 7 rfl ?_
      refine z_aald C (20 + 3) (zapp_B (zapp_l wS_bi)) (by omega) (by omega) dX3_isSame_84 (zPt_at (by omega)) ?_
      refine z_iconst C (nI 3) dX3_isSame_85 (by decide) ?_
      refine z_ialdN C (20 + (4 + i)) (zapp_B (zapp_l (wS_row (b := i) (by omega)))) (by omega) (by decide) dX3_isSame_86 (v := nI (zWo a i)) rfl ?_
      have f_86b := ha.wo (b := i) (by omega)
      refine z_iastN C (20 + (wS g p a (zT3 (zFw a 0))).length) (zapp_B zapp_e) (by omega) (by decide) dX3_isSame_87 (zset_B zapp_set) ?_
      refine z_dup C dX3_isSame_88 rfl ?_
      refine z_iconst C (nI 4) dX3_isSame_89 (by decide) ?_
      refine z_aload_n C dX3_isSame_90 0 rfl ?_
      refine z_get C inX3_isSame_X3 (20 + 0) (zapp_B (zapp_l wS_o)) rfl 2 (by decide) (C.w 3 rfl) rfl dX3_isSame_91 ?_
      refine z_iload C dX3_isSame_94 7 rfl ?_
      refine z_aald C (20 + 3) (zapp_B (zapp_l wS_bi)) (by omega) (by omega) dX3_isSame_96 (zPt_at (by omega)) ?_
      refine z_iconst C (nI 4) dX3_isSame_97 (by decide) ?_
      refine z_ialdN C (20 + (4 + i)) (zapp_B (zapp_l (wS_row (b := i) (by omega)))) (by omega) (by decide) dX3_isSame_98 (v := nI (zGo a i)) rfl ?_
      have f_98b := ha.go (b := i) (by omega)
      refine z_iastN C (20 + (wS g p a (zT3 (zFw a 0))).length) (zapp_B zapp_e) (by omega) (by decide) dX3_isSame_99 (zset_B zapp_set) ?_
      refine z_dup C dX3_isSame_100 rfl ?_
      refine z_iconst C (nI 5) dX3_isSame_101 (by decide) ?_
      refine z_aload_n C dX3_isSame_102 0 rfl ?_
      refine z_iload C dX3_isSame_103 7 rfl ?_
      refine z_callV C (zM.fm (c_X3_gain l g p a (zT3 (zFw a 0)) ha i (by omega)) (wB g q a (zG0 a) bs wb pd gw) [(x38, .inl (zI g, 8, .inl (upd (upd (upd (upd (upd (fun _ => nI 0) 0 (nI (zOw a i))) 1 (nI (zBu a i))) 2 (nI (zPr a i))) 3 (nI (zWo a i))) 4 (nI (zGo a i)))))]) (cwV 1 C.ts gX3_isSame_X3_gain rfl rfl rfl (by decide +kernel) ⟨Nat.le_of_ble_eq_true rfl, Nat.le_of_ble_eq_true rfl⟩) (zapp_B (zapp_l wS_o)) rfl rfl rfl (Nat.le_of_ble_eq_true rfl) dX3_isSame_105 ⟨by dsimp only; omega, by dsimp only; omega⟩ ?_
      rintro _ _ ⟨_, ⟨rfl, rfl⟩, rfl⟩
      refine zW.eqst (st2 := [.int (iZ (zGn a i)), .int (nI 5), .ref x38, .ref x38]) rfl ?_
      refine z_iastN C (20 + (wS g p a (zT3 (zFw a 0))).length) (zapp_B zapp_e) (by omega) (by decide) dX3_isSame_108 (zset_B zapp_set) ?_
      refine z_dup C dX3_isSame_109 rfl ?_
      refine z_bipush C (nI 6) dX3_isSame_110 (by decide) ?_
      refine z_aload_n C dX3_isSame_112 0 rfl ?_
      refine z_iload C dX3_isSame_113 7 rfl ?_
      refine z_callV C (zM.fm (c_X3_counts l g p a (zT3 (zFw a 0)) ha i (by omega)) (wB g q a (zG0 a) bs wb pd gw) [(x38, .inl (zI g, 8, .inl (upd (upd (upd (upd (upd (upd (fun _ => nI 0) 0 (nI (zOw a i))) 1 (nI (zBu a i))) 2 (nI (zPr a i))) 3 (nI (zWo a i))) 4 (nI (zGo a i))) 5 (iZ (zGn a i)))))]) (cwV 1 C.ts gX3_isSame_X3_counts rfl rfl rfl (by decide +kernel) ⟨Nat.le_of_ble_eq_true rfl, Nat.le_of_ble_eq_true rfl⟩) (zapp_B (zapp_l wS_o)) rfl rfl rfl (Nat.le_of_ble_eq_true rfl) dX3_isSame_115 ⟨by dsimp only; omega, by dsimp only; omega⟩ ?_
      rintro _ _ ⟨_, ⟨rfl, rfl⟩, rfl⟩
      refine zW.eqst (st2 := [.int (bI (zCn a (zOu a) i)), .int (nI 6), .ref x38, .ref x38]) rfl ?_
      refine z_if_eq C 125 dX3_isSame_118 (by decide) (zeq_B0 _) (fun c_118 => ?_) (fun c_118 => ?_)
      · skip
        refine z_iconst C (nI 0) dX3_isSame_125 (by decide) ?_
        refine z_iastN C (20 + (wS g p a (zT3 (zFw a 0))).length) (zapp_B zapp_e) (by omega) (by decide) dX3_isSame_126 (zset_B zapp_set) ?_
        refine z_dup C dX3_isSame_127 rfl ?_
        refine z_bipush C (nI 7) dX3_isSame_128 (by decide) ?_
        refine z_iload_n C dX3_isSame_130 2 rfl ?_
        refine z_iload C dX3_isSame_131 7 rfl ?_
        refine z_ishr C dX3_isSame_133 (v := nI (((zFw a 0).2) / 2 ^ i)) (zshr_NN (by omega) (by omega)) ?_
        refine z_iconst C (nI 2) dX3_isSame_134 (by decide) ?_
        refine z_irem C dX3_isSame_135 (by decide) (v := bI ((zFw a 0).2.testBit i)) (zrem_bit (by omega)) ?_
        refine z_iastN C (20 + (wS g p a (zT3 (zFw a 0))).length) (zapp_B zapp_e) (by omega) (by decide) dX3_isSame_136 (zset_B zapp_set) ?_
        refine zW.eqw (congrArg (fun f9 => wB g q a (zG0 a) bs wb pd gw ++ (wS g p a (zT3 (zFw a 0)) ++ [(x38, .inl (zI g, 8, .inl f9))])) (show upd (upd (upd (upd (upd (upd (upd (upd (fun _ => nI 0) 0 (nI (zOw a i))) 1 (nI (zBu a i))) 2 (nI (zPr a i))) 3 (nI (zWo a i))) 4 (nI (zGo a i))) 5 (iZ (zGn a i))) 6 (nI 0)) 7 (bI ((zFw a 0).2.testBit i)) = zRw 8 (aTold a i) from zRw8_of rfl rfl rfl rfl rfl rfl (by show nI 0 = iZ (if zCn a (zOu a) i = true then 1 else 0); rw [if_neg (by rw [c_118]; decide)]; rfl) (bI_Z _))) ?_
        refine zW.eqw (ws2 := wB g q a (zG0 a) bs wb pd gw ++ (wS g p a (zT3 (zFw a 0)) ++ [(x38, .inl (zI g, 8, .inl (zRw 8 (aTold a i))))])) rfl ?_
        refine z_astore C dX3_isSame_137 (by decide) [(8, .ref x38), (0, .ref (p 0)), (1, .ref (q 0)), (2, .int (nI ((zFw a 0).2))), (3, .int (iZ ((zFw a 0).1))), (4, .int (nI (zPop (zFw a 0).2 12))), (5, .int (nI (zOrs (fun b => if (zFw a 0).2.testBit b = true then zBu a b else 0) i))), (6, .int (nI (zSum (fun b => if (zFw a 0).2.testBit b = true then zPr a b else 0) i))), (7, .int (nI i))] rfl ?_
        refine z_iconst C (nI 0) dX3_isSame_139 (by decide) ?_
        refine z_istore C dX3_isSame_140 (by decide) [(9, .int (nI 0)), (8, .ref x38), (0, .ref (p 0)), (1, .ref (q 0)), (2, .int (nI ((zFw a 0).2))), (3, .int (iZ ((zFw a 0).1))), (4, .int (nI (zPop (zFw a 0).2 12))), (5, .int (nI (zOrs (fun b => if (zFw a 0).2.testBit b = true then zBu a b else 0) i))), (6, .int (nI (zSum (fun b => if (zFw a 0).2.testBit b = true then zPr a b else 0) i))), (7, .int (nI i))] rfl ?_
        refine zW.pick (lv' := [(0, .ref (p 0)), (1, .ref (q 0)), (2, .int (nI ((zFw a 0).2))), (3, .int (iZ ((zFw a 0).1))), (4, .int (nI (zPop (zFw a 0).2 12))), (5, .int (nI (zOrs (fun b => if (zFw a 0).2.testBit b = true then zBu a b else 0) i))), (6, .int (nI (zSum (fun b => if (zFw a 0).2.testBit b = true then zPr a b else 0) i))), (7, .int (nI i)), (8, .ref x38), (9, .int (nI 0))]) [2, 3, 4, 5, 6, 7, 8, 9, 1, 0] rfl ?_
        have hlp142 : ∀ (kj j : Nat), j + kj = 8 → zW g l ({ frames := 13, cells := 26, slots := 159, locals := 315 }) E (zMQ g E (zPie (bI true) (fun _ => True)) 26 159) 15 (i + 1) (8 * i + 8) (wB g q a (zG0 a) bs wb pd gw ++ (wS g p a (zT3 (zFw a 0)) ++ [(x38, .inl (zI g, 8, .inl (zRw 8 (aTold a i))))])) [(0, .ref (p 0)), (1, .ref (q 0)), (2, .int (nI ((zFw a 0).2))), (3, .int (iZ ((zFw a 0).1))), (4, .int (nI (zPop (zFw a 0).2 12))), (5, .int (nI (zOrs (fun b => if (zFw a 0).2.testBit b = true then zBu a b else 0) i))), (6, .int (nI (zSum (fun b => if (zFw a 0).2.testBit b = true then zPr a b else 0) i))), (7, .int (nI i)), (8, .ref x38), (9, .int (nI j))] [] 142 := by
          intro kj
          induction kj with
          | zero =>
            intro j hjk
            refine z_iload C dX3_isSame_142 9 rfl ?_
            refine z_bipush C (nI 8) dX3_isSame_144 (by decide) ?_
            refine z_icmp_ge C 173 dX3_isSame_146 (by decide) (zle_NN (by omega) (by omega)) (fun c_146 => ?_) (fun h9 => absurd (by omega) h9)
            refine zW.fewer [] (wB g q a (zG0 a) bs wb pd gw ++ (wS g p a (zT3 (zFw a 0)))) [(x38, .inl (zI g, 8, .inl (zRw 8 (aTold a i))))] (List.append_assoc _ _ _).symm ?_
            refine z_iload_n C dX3_isSame_173 2 rfl ?_
            refine z_iload C dX3_isSame_174 7 rfl ?_
            refine z_ishr C dX3_isSame_176 (v := nI (((zFw a 0).2) / 2 ^ i)) (zshr_NN (by omega) (by omega)) ?_
            refine z_iconst C (nI 2) dX3_isSame_177 (by decide) ?_
            refine z_irem C dX3_isSame_178 (by decide) (v := bI ((zFw a 0).2.testBit i)) (zrem_bit (by omega)) ?_
            refine z_iconst C (nI 1) dX3_isSame_179 (by decide) ?_
            refine z_icmp_ne C 211 dX3_isSame_180 (by decide) (zeq_B1 _) (fun c_180 => ?_) (fun c_180 => ?_)
            · skip
              refine z_iinc C dX3_isSame_211 7 (nI (i + 1)) rfl (nI_add i 1) (by decide) [(7, .int (nI (i + 1))), (0, .ref (p 0)), (1, .ref (q 0)), (2, .int (nI ((zFw a 0).2))), (3, .int (iZ ((zFw a 0).1))), (4, .int (nI (zPop (zFw a 0).2 12))), (5, .int (nI (zOrs (fun b => if (zFw a 0).2.testBit b = true then zBu a b else 0) i))), (6, .int (nI (zSum (fun b => if (zFw a 0).2.testBit b = true then zPr a b else 0) i))), (8, .ref x38), (9, .int (nI j))] rfl ?_
              refine z_goto C 26 dX3_isSame_214 (by decide) ?_
              refine zW.pick (lv' := [(0, .ref (p 0)), (1, .ref (q 0)), (2, .int (nI ((zFw a 0).2))), (3, .int (iZ ((zFw a 0).1))), (4, .int (nI (zPop (zFw a 0).2 12))), (5, .int (nI (zOrs (fun b => if (zFw a 0).2.testBit b = true then zBu a b else 0) i))), (6, .int (nI (zSum (fun b => if (zFw a 0).2.testBit b = true then zPr a b else 0) i))), (7, .int (nI (i + 1)))]) [1, 2, 3, 4, 5, 6, 7, 0] rfl ?_
              refine zW.lve (lv' := [(0, .ref (p 0)), (1, .ref (q 0)), (2, .int (nI ((zFw a 0).2))), (3, .int (iZ ((zFw a 0).1))), (4, .int (nI (zPop (zFw a 0).2 12))), (5, .int (nI (zOrs (fun b => if (zFw a 0).2.testBit b = true then zBu a b else 0) (i + 1)))), (6, .int (nI (zSum (fun b => if (zFw a 0).2.testBit b = true then zPr a b else 0) (i + 1)))), (7, .int (nI (i + 1)))]) (by rw [zOrs_n c_180, zSum_n c_180]) ?_
              refine zW.wid (k := i + 1) (n := 8 * (i + 1)) (by omega) (by omega) ?_
              exact ih26 (i + 1) (by omega)
            · skip
              refine z_iload C dX3_isSame_183 5 rfl ?_
              refine z_aload_n C dX3_isSame_185 0 rfl ?_
              refine z_get C inX3_isSame_X3 (20 + 0) (zapp_B wS_o) rfl 2 (by decide) (C.w 3 rfl) rfl dX3_isSame_186 ?_
              refine z_iload C dX3_isSame_189 7 rfl ?_
              refine z_aald C (20 + 3) (zapp_B wS_bi) (by omega) (by omega) dX3_isSame_191 (zPt_at (by omega)) ?_
              refine z_iconst C (nI 1) dX3_isSame_192 (by decide) ?_
              refine z_ialdN C (20 + (4 + i)) (zapp_B (wS_row (b := i) (by omega))) (by omega) (by decide) dX3_isSame_193 (v := nI (zBu a i)) rfl ?_
              have f_193b := ha.bu8 (b := i) (by omega)
              refine z_ior C dX3_isSame_194 (v := nI ((zOrs (fun b => if (zFw a 0).2.testBit b = true then zBu a b else 0) i) ||| (zBu a i))) (zor_NN (zOrs (fun b => if (zFw a 0).2.testBit b = true then zBu a b else 0) i) (zBu a i)) ?_
              refine z_istore C dX3_isSame_195 (by decide) [(5, .int (nI ((zOrs (fun b => if (zFw a 0).2.testBit b = true then zBu a b else 0) i) ||| (zBu a i)))), (0, .ref (p 0)), (1, .ref (q 0)), (2, .int (nI ((zFw a 0).2))), (3, .int (iZ ((zFw a 0).1))), (4, .int (nI (zPop (zFw a 0).2 12))), (6, .int (nI (zSum (fun b => if (zFw a 0).2.testBit b = true then zPr a b else 0) i))), (7, .int (nI i)), (8, .ref x38), (9, .int (nI j))] rfl ?_
              refine z_iload C dX3_isSame_197 6 rfl ?_
              refine z_aload_n C dX3_isSame_199 1 rfl ?_
              refine z_get C inX3_isSame_X3 (20 + 0) (zapp_B wS_o) rfl 2 (by decide) (C.w 3 rfl) rfl dX3_isSame_200 ?_
              refine z_iload C dX3_isSame_203 7 rfl ?_
              refine z_aald C (20 + 3) (zapp_B wS_bi) (by omega) (by omega) dX3_isSame_205 (zPt_at (by omega)) ?_
              refine z_iconst C (nI 2) dX3_isSame_206 (by decide) ?_
              refine z_ialdN C (20 + (4 + i)) (zapp_B (wS_row (b := i) (by omega))) (by omega) (by decide) dX3_isSame_207 (v := nI (zPr a i)) rfl ?_
              have f_207b := ha.pr (b := i) (by omega)
              refine z_iadd C dX3_isSame_208 (v := nI ((zSum (fun b => if (zFw a 0).2.testBit b = true then zPr a b else 0) i) + (zPr a i))) (nI_add (zSum (fun b => if (zFw a 0).2.testBit b = true then zPr a b else 0) i) (zPr a i)) ?_
              refine z_istore C dX3_isSame_209 (by decide) [(6, .int (nI ((zSum (fun b => if (zFw a 0).2.testBit b = true then zPr a b else 0) i) + (zPr a i)))), (5, .int (nI ((zOrs (fun b => if (zFw a 0).2.testBit b = true then zBu a b else 0) i) ||| (zBu a i)))), (0, .ref (p 0)), (1, .ref (q 0)), (2, .int (nI ((zFw a 0).2))), (3, .int (iZ ((zFw a 0).1))), (4, .int (nI (zPop (zFw a 0).2 12))), (7, .int (nI i)), (8, .ref x38), (9, .int (nI j))] rfl ?_
              refine z_iinc C dX3_isSame_211 7 (nI (i + 1)) rfl (nI_add i 1) (by decide) [(7, .int (nI (i + 1))), (6, .int (nI ((zSum (fun b => if (zFw a 0).2.testBit b = true then zPr a b else 0) i) + (zPr a i)))), (5, .int (nI ((zOrs (fun b => if (zFw a 0).2.testBit b = true then zBu a b else 0) i) ||| (zBu a i)))), (0, .ref (p 0)), (1, .ref (q 0)), (2, .int (nI ((zFw a 0).2))), (3, .int (iZ ((zFw a 0).1))), (4, .int (nI (zPop (zFw a 0).2 12))), (8, .ref x38), (9, .int (nI j))] rfl ?_
              refine z_goto C 26 dX3_isSame_214 (by decide) ?_
              refine zW.pick (lv' := [(0, .ref (p 0)), (1, .ref (q 0)), (2, .int (nI ((zFw a 0).2))), (3, .int (iZ ((zFw a 0).1))), (4, .int (nI (zPop (zFw a 0).2 12))), (5, .int (nI ((zOrs (fun b => if (zFw a 0).2.testBit b = true then zBu a b else 0) i) ||| (zBu a i)))), (6, .int (nI ((zSum (fun b => if (zFw a 0).2.testBit b = true then zPr a b else 0) i) + (zPr a i)))), (7, .int (nI (i + 1)))]) [3, 4, 5, 6, 7, 2, 1, 0] rfl ?_
              refine zW.lve (lv' := [(0, .ref (p 0)), (1, .ref (q 0)), (2, .int (nI ((zFw a 0).2))), (3, .int (iZ ((zFw a 0).1))), (4, .int (nI (zPop (zFw a 0).2 12))), (5, .int (nI (zOrs (fun b => if (zFw a 0).2.testBit b = true then zBu a b else 0) (i + 1)))), (6, .int (nI (zSum (fun b => if (zFw a 0).2.testBit b = true then zPr a b else 0) (i + 1)))), (7, .int (nI (i + 1)))]) (by rw [zOrs_y c_180, zSum_y c_180]) ?_
              refine zW.wid (k := i + 1) (n := 8 * (i + 1)) (by omega) (by omega) ?_
              exact ih26 (i + 1) (by omega)
          | succ kj ih142 =>
            intro j hjk
            refine z_iload C dX3_isSame_142 9 rfl ?_
            refine z_bipush C (nI 8) dX3_isSame_144 (by decide) ?_
            refine z_icmp_ge C 173 dX3_isSame_146 (by decide) (zle_NN (by omega) (by omega)) (fun h9 => absurd h9 (by omega)) (fun c_146 => ?_)
            refine z_aload_n C dX3_isSame_149 1 rfl ?_
            refine z_iload C dX3_isSame_150 7 rfl ?_
            refine z_iload C dX3_isSame_152 9 rfl ?_
            refine z_callV C (zM.fl (c_X2_told l g q a bs wb pd gw ha hs i j (by omega) (by omega)) (wS g p a (zT3 (zFw a 0)) ++ [(x38, .inl (zI g, 8, .inl (zRw 8 (aTold a i))))])) (cwV 2 C.ts gX3_isSame_X2_told rfl rfl rfl (by decide +kernel) ⟨Nat.le_of_ble_eq_true rfl, Nat.le_of_ble_eq_true rfl⟩) (zapp_l wB_o) rfl rfl rfl (Nat.le_of_ble_eq_true rfl) dX3_isSame_154 ⟨by dsimp only; omega, by dsimp only; omega⟩ ?_
            rintro _ _ ⟨_, ⟨rfl, rfl⟩, rfl⟩
            refine zW.eqst (st2 := [.int (iZ (aTold a i j))]) rfl ?_
            refine z_aload C dX3_isSame_157 8 rfl ?_
            refine z_iload C dX3_isSame_159 9 rfl ?_
            refine z_ialdN C (20 + (wS g p a (zT3 (zFw a 0))).length) (zapp_B zapp_e) (by omega) (by decide) dX3_isSame_161 (v := iZ (aTold a i j)) (zRw_at (by omega)) ?_
            refine z_icmp_eq C 167 dX3_isSame_162 (by decide) Iff.rfl (fun c_162 => ?_) (fun h9 => absurd rfl h9)
            refine z_iinc C dX3_isSame_167 9 (nI (j + 1)) rfl (nI_add j 1) (by decide) [(9, .int (nI (j + 1))), (0, .ref (p 0)), (1, .ref (q 0)), (2, .int (nI ((zFw a 0).2))), (3, .int (iZ ((zFw a 0).1))), (4, .int (nI (zPop (zFw a 0).2 12))), (5, .int (nI (zOrs (fun b => if (zFw a 0).2.testBit b = true then zBu a b else 0) i))), (6, .int (nI (zSum (fun b => if (zFw a 0).2.testBit b = true then zPr a b else 0) i))), (7, .int (nI i)), (8, .ref x38)] rfl ?_
            refine z_goto C 142 dX3_isSame_170 (by decide) ?_
            refine zW.pick (lv' := [(0, .ref (p 0)), (1, .ref (q 0)), (2, .int (nI ((zFw a 0).2))), (3, .int (iZ ((zFw a 0).1))), (4, .int (nI (zPop (zFw a 0).2 12))), (5, .int (nI (zOrs (fun b => if (zFw a 0).2.testBit b = true then zBu a b else 0) i))), (6, .int (nI (zSum (fun b => if (zFw a 0).2.testBit b = true then zPr a b else 0) i))), (7, .int (nI i)), (8, .ref x38), (9, .int (nI (j + 1)))]) [1, 2, 3, 4, 5, 6, 7, 8, 9, 0] rfl ?_
            exact ih142 (j + 1) (by omega)
        exact hlp142 (8) 0 (by omega)
      · skip
        refine z_iconst C (nI 1) dX3_isSame_121 (by decide) ?_
        refine z_goto C 126 dX3_isSame_122 (by decide) ?_
        refine z_iastN C (20 + (wS g p a (zT3 (zFw a 0))).length) (zapp_B zapp_e) (by omega) (by decide) dX3_isSame_126 (zset_B zapp_set) ?_
        refine z_dup C dX3_isSame_127 rfl ?_
        refine z_bipush C (nI 7) dX3_isSame_128 (by decide) ?_
        refine z_iload_n C dX3_isSame_130 2 rfl ?_
        refine z_iload C dX3_isSame_131 7 rfl ?_
        refine z_ishr C dX3_isSame_133 (v := nI (((zFw a 0).2) / 2 ^ i)) (zshr_NN (by omega) (by omega)) ?_
        refine z_iconst C (nI 2) dX3_isSame_134 (by decide) ?_
        refine z_irem C dX3_isSame_135 (by decide) (v := bI ((zFw a 0).2.testBit i)) (zrem_bit (by omega)) ?_
        refine z_iastN C (20 + (wS g p a (zT3 (zFw a 0))).length) (zapp_B zapp_e) (by omega) (by decide) dX3_isSame_136 (zset_B zapp_set) ?_
        refine zW.eqw (congrArg (fun f9 => wB g q a (zG0 a) bs wb pd gw ++ (wS g p a (zT3 (zFw a 0)) ++ [(x38, .inl (zI g, 8, .inl f9))])) (show upd (upd (upd (upd (upd (upd (upd (upd (fun _ => nI 0) 0 (nI (zOw a i))) 1 (nI (zBu a i))) 2 (nI (zPr a i))) 3 (nI (zWo a i))) 4 (nI (zGo a i))) 5 (iZ (zGn a i))) 6 (nI 1)) 7 (bI ((zFw a 0).2.testBit i)) = zRw 8 (aTold a i) from zRw8_of rfl rfl rfl rfl rfl rfl (by show nI 1 = iZ (if zCn a (zOu a) i = true then 1 else 0); rw [if_pos (by simpa using c_118)]; rfl) (bI_Z _))) ?_
        refine zW.eqw (ws2 := wB g q a (zG0 a) bs wb pd gw ++ (wS g p a (zT3 (zFw a 0)) ++ [(x38, .inl (zI g, 8, .inl (zRw 8 (aTold a i))))])) rfl ?_
        refine z_astore C dX3_isSame_137 (by decide) [(8, .ref x38), (0, .ref (p 0)), (1, .ref (q 0)), (2, .int (nI ((zFw a 0).2))), (3, .int (iZ ((zFw a 0).1))), (4, .int (nI (zPop (zFw a 0).2 12))), (5, .int (nI (zOrs (fun b => if (zFw a 0).2.testBit b = true then zBu a b else 0) i))), (6, .int (nI (zSum (fun b => if (zFw a 0).2.testBit b = true then zPr a b else 0) i))), (7, .int (nI i))] rfl ?_
        refine z_iconst C (nI 0) dX3_isSame_139 (by decide) ?_
        refine z_istore C dX3_isSame_140 (by decide) [(9, .int (nI 0)), (8, .ref x38), (0, .ref (p 0)), (1, .ref (q 0)), (2, .int (nI ((zFw a 0).2))), (3, .int (iZ ((zFw a 0).1))), (4, .int (nI (zPop (zFw a 0).2 12))), (5, .int (nI (zOrs (fun b => if (zFw a 0).2.testBit b = true then zBu a b else 0) i))), (6, .int (nI (zSum (fun b => if (zFw a 0).2.testBit b = true then zPr a b else 0) i))), (7, .int (nI i))] rfl ?_
        refine zW.pick (lv' := [(0, .ref (p 0)), (1, .ref (q 0)), (2, .int (nI ((zFw a 0).2))), (3, .int (iZ ((zFw a 0).1))), (4, .int (nI (zPop (zFw a 0).2 12))), (5, .int (nI (zOrs (fun b => if (zFw a 0).2.testBit b = true then zBu a b else 0) i))), (6, .int (nI (zSum (fun b => if (zFw a 0).2.testBit b = true then zPr a b else 0) i))), (7, .int (nI i)), (8, .ref x38), (9, .int (nI 0))]) [2, 3, 4, 5, 6, 7, 8, 9, 1, 0] rfl ?_
        have hlp142 : ∀ (kj j : Nat), j + kj = 8 → zW g l ({ frames := 13, cells := 26, slots := 159, locals := 315 }) E (zMQ g E (zPie (bI true) (fun _ => True)) 26 159) 15 (i + 1) (8 * i + 8) (wB g q a (zG0 a) bs wb pd gw ++ (wS g p a (zT3 (zFw a 0)) ++ [(x38, .inl (zI g, 8, .inl (zRw 8 (aTold a i))))])) [(0, .ref (p 0)), (1, .ref (q 0)), (2, .int (nI ((zFw a 0).2))), (3, .int (iZ ((zFw a 0).1))), (4, .int (nI (zPop (zFw a 0).2 12))), (5, .int (nI (zOrs (fun b => if (zFw a 0).2.testBit b = true then zBu a b else 0) i))), (6, .int (nI (zSum (fun b => if (zFw a 0).2.testBit b = true then zPr a b else 0) i))), (7, .int (nI i)), (8, .ref x38), (9, .int (nI j))] [] 142 := by
          intro kj
          induction kj with
          | zero =>
            intro j hjk
            refine z_iload C dX3_isSame_142 9 rfl ?_
            refine z_bipush C (nI 8) dX3_isSame_144 (by decide) ?_
            refine z_icmp_ge C 173 dX3_isSame_146 (by decide) (zle_NN (by omega) (by omega)) (fun c_146 => ?_) (fun h9 => absurd (by omega) h9)
            refine zW.fewer [] (wB g q a (zG0 a) bs wb pd gw ++ (wS g p a (zT3 (zFw a 0)))) [(x38, .inl (zI g, 8, .inl (zRw 8 (aTold a i))))] (List.append_assoc _ _ _).symm ?_
            refine z_iload_n C dX3_isSame_173 2 rfl ?_
            refine z_iload C dX3_isSame_174 7 rfl ?_
            refine z_ishr C dX3_isSame_176 (v := nI (((zFw a 0).2) / 2 ^ i)) (zshr_NN (by omega) (by omega)) ?_
            refine z_iconst C (nI 2) dX3_isSame_177 (by decide) ?_
            refine z_irem C dX3_isSame_178 (by decide) (v := bI ((zFw a 0).2.testBit i)) (zrem_bit (by omega)) ?_
            refine z_iconst C (nI 1) dX3_isSame_179 (by decide) ?_
            refine z_icmp_ne C 211 dX3_isSame_180 (by decide) (zeq_B1 _) (fun c_180 => ?_) (fun c_180 => ?_)
            · skip
              refine z_iinc C dX3_isSame_211 7 (nI (i + 1)) rfl (nI_add i 1) (by decide) [(7, .int (nI (i + 1))), (0, .ref (p 0)), (1, .ref (q 0)), (2, .int (nI ((zFw a 0).2))), (3, .int (iZ ((zFw a 0).1))), (4, .int (nI (zPop (zFw a 0).2 12))), (5, .int (nI (zOrs (fun b => if (zFw a 0).2.testBit b = true then zBu a b else 0) i))), (6, .int (nI (zSum (fun b => if (zFw a 0).2.testBit b = true then zPr a b else 0) i))), (8, .ref x38), (9, .int (nI j))] rfl ?_
              refine z_goto C 26 dX3_isSame_214 (by decide) ?_
              refine zW.pick (lv' := [(0, .ref (p 0)), (1, .ref (q 0)), (2, .int (nI ((zFw a 0).2))), (3, .int (iZ ((zFw a 0).1))), (4, .int (nI (zPop (zFw a 0).2 12))), (5, .int (nI (zOrs (fun b => if (zFw a 0).2.testBit b = true then zBu a b else 0) i))), (6, .int (nI (zSum (fun b => if (zFw a 0).2.testBit b = true then zPr a b else 0) i))), (7, .int (nI (i + 1)))]) [1, 2, 3, 4, 5, 6, 7, 0] rfl ?_
              refine zW.lve (lv' := [(0, .ref (p 0)), (1, .ref (q 0)), (2, .int (nI ((zFw a 0).2))), (3, .int (iZ ((zFw a 0).1))), (4, .int (nI (zPop (zFw a 0).2 12))), (5, .int (nI (zOrs (fun b => if (zFw a 0).2.testBit b = true then zBu a b else 0) (i + 1)))), (6, .int (nI (zSum (fun b => if (zFw a 0).2.testBit b = true then zPr a b else 0) (i + 1)))), (7, .int (nI (i + 1)))]) (by rw [zOrs_n c_180, zSum_n c_180]) ?_
              refine zW.wid (k := i + 1) (n := 8 * (i + 1)) (by omega) (by omega) ?_
              exact ih26 (i + 1) (by omega)
            · skip
              refine z_iload C dX3_isSame_183 5 rfl ?_
              refine z_aload_n C dX3_isSame_185 0 rfl ?_
              refine z_get C inX3_isSame_X3 (20 + 0) (zapp_B wS_o) rfl 2 (by decide) (C.w 3 rfl) rfl dX3_isSame_186 ?_
              refine z_iload C dX3_isSame_189 7 rfl ?_
              refine z_aald C (20 + 3) (zapp_B wS_bi) (by omega) (by omega) dX3_isSame_191 (zPt_at (by omega)) ?_
              refine z_iconst C (nI 1) dX3_isSame_192 (by decide) ?_
              refine z_ialdN C (20 + (4 + i)) (zapp_B (wS_row (b := i) (by omega))) (by omega) (by decide) dX3_isSame_193 (v := nI (zBu a i)) rfl ?_
              have f_193b := ha.bu8 (b := i) (by omega)
              refine z_ior C dX3_isSame_194 (v := nI ((zOrs (fun b => if (zFw a 0).2.testBit b = true then zBu a b else 0) i) ||| (zBu a i))) (zor_NN (zOrs (fun b => if (zFw a 0).2.testBit b = true then zBu a b else 0) i) (zBu a i)) ?_
              refine z_istore C dX3_isSame_195 (by decide) [(5, .int (nI ((zOrs (fun b => if (zFw a 0).2.testBit b = true then zBu a b else 0) i) ||| (zBu a i)))), (0, .ref (p 0)), (1, .ref (q 0)), (2, .int (nI ((zFw a 0).2))), (3, .int (iZ ((zFw a 0).1))), (4, .int (nI (zPop (zFw a 0).2 12))), (6, .int (nI (zSum (fun b => if (zFw a 0).2.testBit b = true then zPr a b else 0) i))), (7, .int (nI i)), (8, .ref x38), (9, .int (nI j))] rfl ?_
              refine z_iload C dX3_isSame_197 6 rfl ?_
              refine z_aload_n C dX3_isSame_199 1 rfl ?_
              refine z_get C inX3_isSame_X3 (20 + 0) (zapp_B wS_o) rfl 2 (by decide) (C.w 3 rfl) rfl dX3_isSame_200 ?_
              refine z_iload C dX3_isSame_203 7 rfl ?_
              refine z_aald C (20 + 3) (zapp_B wS_bi) (by omega) (by omega) dX3_isSame_205 (zPt_at (by omega)) ?_
              refine z_iconst C (nI 2) dX3_isSame_206 (by decide) ?_
              refine z_ialdN C (20 + (4 + i)) (zapp_B (wS_row (b := i) (by omega))) (by omega) (by decide) dX3_isSame_207 (v := nI (zPr a i)) rfl ?_
              have f_207b := ha.pr (b := i) (by omega)
              refine z_iadd C dX3_isSame_208 (v := nI ((zSum (fun b => if (zFw a 0).2.testBit b = true then zPr a b else 0) i) + (zPr a i))) (nI_add (zSum (fun b => if (zFw a 0).2.testBit b = true then zPr a b else 0) i) (zPr a i)) ?_
              refine z_istore C dX3_isSame_209 (by decide) [(6, .int (nI ((zSum (fun b => if (zFw a 0).2.testBit b = true then zPr a b else 0) i) + (zPr a i)))), (5, .int (nI ((zOrs (fun b => if (zFw a 0).2.testBit b = true then zBu a b else 0) i) ||| (zBu a i)))), (0, .ref (p 0)), (1, .ref (q 0)), (2, .int (nI ((zFw a 0).2))), (3, .int (iZ ((zFw a 0).1))), (4, .int (nI (zPop (zFw a 0).2 12))), (7, .int (nI i)), (8, .ref x38), (9, .int (nI j))] rfl ?_
              refine z_iinc C dX3_isSame_211 7 (nI (i + 1)) rfl (nI_add i 1) (by decide) [(7, .int (nI (i + 1))), (6, .int (nI ((zSum (fun b => if (zFw a 0).2.testBit b = true then zPr a b else 0) i) + (zPr a i)))), (5, .int (nI ((zOrs (fun b => if (zFw a 0).2.testBit b = true then zBu a b else 0) i) ||| (zBu a i)))), (0, .ref (p 0)), (1, .ref (q 0)), (2, .int (nI ((zFw a 0).2))), (3, .int (iZ ((zFw a 0).1))), (4, .int (nI (zPop (zFw a 0).2 12))), (8, .ref x38), (9, .int (nI j))] rfl ?_
              refine z_goto C 26 dX3_isSame_214 (by decide) ?_
              refine zW.pick (lv' := [(0, .ref (p 0)), (1, .ref (q 0)), (2, .int (nI ((zFw a 0).2))), (3, .int (iZ ((zFw a 0).1))), (4, .int (nI (zPop (zFw a 0).2 12))), (5, .int (nI ((zOrs (fun b => if (zFw a 0).2.testBit b = true then zBu a b else 0) i) ||| (zBu a i)))), (6, .int (nI ((zSum (fun b => if (zFw a 0).2.testBit b = true then zPr a b else 0) i) + (zPr a i)))), (7, .int (nI (i + 1)))]) [3, 4, 5, 6, 7, 2, 1, 0] rfl ?_
              refine zW.lve (lv' := [(0, .ref (p 0)), (1, .ref (q 0)), (2, .int (nI ((zFw a 0).2))), (3, .int (iZ ((zFw a 0).1))), (4, .int (nI (zPop (zFw a 0).2 12))), (5, .int (nI (zOrs (fun b => if (zFw a 0).2.testBit b = true then zBu a b else 0) (i + 1)))), (6, .int (nI (zSum (fun b => if (zFw a 0).2.testBit b = true then zPr a b else 0) (i + 1)))), (7, .int (nI (i + 1)))]) (by rw [zOrs_y c_180, zSum_y c_180]) ?_
              refine zW.wid (k := i + 1) (n := 8 * (i + 1)) (by omega) (by omega) ?_
              exact ih26 (i + 1) (by omega)
          | succ kj ih142 =>
            intro j hjk
            refine z_iload C dX3_isSame_142 9 rfl ?_
            refine z_bipush C (nI 8) dX3_isSame_144 (by decide) ?_
            refine z_icmp_ge C 173 dX3_isSame_146 (by decide) (zle_NN (by omega) (by omega)) (fun h9 => absurd h9 (by omega)) (fun c_146 => ?_)
            refine z_aload_n C dX3_isSame_149 1 rfl ?_
            refine z_iload C dX3_isSame_150 7 rfl ?_
            refine z_iload C dX3_isSame_152 9 rfl ?_
            refine z_callV C (zM.fl (c_X2_told l g q a bs wb pd gw ha hs i j (by omega) (by omega)) (wS g p a (zT3 (zFw a 0)) ++ [(x38, .inl (zI g, 8, .inl (zRw 8 (aTold a i))))])) (cwV 2 C.ts gX3_isSame_X2_told rfl rfl rfl (by decide +kernel) ⟨Nat.le_of_ble_eq_true rfl, Nat.le_of_ble_eq_true rfl⟩) (zapp_l wB_o) rfl rfl rfl (Nat.le_of_ble_eq_true rfl) dX3_isSame_154 ⟨by dsimp only; omega, by dsimp only; omega⟩ ?_
            rintro _ _ ⟨_, ⟨rfl, rfl⟩, rfl⟩
            refine zW.eqst (st2 := [.int (iZ (aTold a i j))]) rfl ?_
            refine z_aload C dX3_isSame_157 8 rfl ?_
            refine z_iload C dX3_isSame_159 9 rfl ?_
            refine z_ialdN C (20 + (wS g p a (zT3 (zFw a 0))).length) (zapp_B zapp_e) (by omega) (by decide) dX3_isSame_161 (v := iZ (aTold a i j)) (zRw_at (by omega)) ?_
            refine z_icmp_eq C 167 dX3_isSame_162 (by decide) Iff.rfl (fun c_162 => ?_) (fun h9 => absurd rfl h9)
            refine z_iinc C dX3_isSame_167 9 (nI (j + 1)) rfl (nI_add j 1) (by decide) [(9, .int (nI (j + 1))), (0, .ref (p 0)), (1, .ref (q 0)), (2, .int (nI ((zFw a 0).2))), (3, .int (iZ ((zFw a 0).1))), (4, .int (nI (zPop (zFw a 0).2 12))), (5, .int (nI (zOrs (fun b => if (zFw a 0).2.testBit b = true then zBu a b else 0) i))), (6, .int (nI (zSum (fun b => if (zFw a 0).2.testBit b = true then zPr a b else 0) i))), (7, .int (nI i)), (8, .ref x38)] rfl ?_
            refine z_goto C 142 dX3_isSame_170 (by decide) ?_
            refine zW.pick (lv' := [(0, .ref (p 0)), (1, .ref (q 0)), (2, .int (nI ((zFw a 0).2))), (3, .int (iZ ((zFw a 0).1))), (4, .int (nI (zPop (zFw a 0).2 12))), (5, .int (nI (zOrs (fun b => if (zFw a 0).2.testBit b = true then zBu a b else 0) i))), (6, .int (nI (zSum (fun b => if (zFw a 0).2.testBit b = true then zPr a b else 0) i))), (7, .int (nI i)), (8, .ref x38), (9, .int (nI (j + 1)))]) [1, 2, 3, 4, 5, 6, 7, 8, 9, 0] rfl ?_
            exact ih142 (j + 1) (by omega)
        exact hlp142 (8) 0 (by omega)
  exact hlp26 (zNb a) 0 (by omega)
