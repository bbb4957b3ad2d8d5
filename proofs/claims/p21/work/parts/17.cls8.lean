def zDg (f : Nat → Int) (d : Int64) : Nat → Int64
  | 0 => d
  | n + 1 => zDg f d n * 31 + (iZ (f n)).toInt64
def aDg2 (a : zS) : Nat → Int64
  | 0 => zDg (aCount a) 1619 9
  | n + 1 => zDg (aAlone a n) (zDg (aLand a n) (aDg2 a n) 3) 3
def aDg3 (a : zS) : Nat → Int64
  | 0 => aDg2 a (zNf a)
  | n + 1 => zDg (aAbout a n) (aDg3 a n) 6
def aDg4 (a : zS) : Nat → Int64
  | 0 => aDg3 a (zNd a)
  | n + 1 => zDg (aTold a n) (aDg4 a n) 8
def aDigest (a : zS) : Int64 := aDg4 a (zNb a)
def aWould (a : zS) (b x w : Nat) : Int := match w with
  | 0 => if (zFw (zSetPr a b x) 0).2.testBit b = true then 1 else 0
  | 1 => aPaid (zSetPr a b x) (zOw a b)
  | 2 => aProf (zSetPr a b x) (zOw a b)
  | _ => (zFw (zSetPr a b x) 0).1
/-- whether a bid would win with the price x -/
def aWins (a : zS) (b x : Nat) : Bool := (zFw (zSetPr a b x) 0).2.testBit b
def zLs (a : zS) (b : Nat) : Nat → Int → Int
  | 0, h => h
  | n + 1, h => zLs a b n (if h + ((2 ^ n : Nat) : Int) ≤ 999 ∧ aWins a b (h + ((2 ^ n : Nat) : Int)).toNat = false then h + ((2 ^ n : Nat) : Int) else h)
theorem zLs_s (a : zS) (b n : Nat) (h : Int) : zLs a b (n + 1) h = zLs a b n (if h + ((2 ^ n : Nat) : Int) ≤ 999 ∧ aWins a b (h + ((2 ^ n : Nat) : Int)).toNat = false then h + ((2 ^ n : Nat) : Int) else h) := rfl
def aLeast (a : zS) (b : Nat) : Int := if zLs a b 10 (-1) < 999 then zLs a b 10 (-1) + 1 else -1
/-- what all pay without the bidder d -/
def aPs (a : zS) (d : Nat) : Int := zSi (fun e => zLp a (2 ^ d) (zNb a) e) 5
def zRv (a : zS) : Nat → Int × Int
  | 0 => (-1, -1)
  | n + 1 => if (zRv a n).2 < aPs a n then ((n : Int), aPs a n) else zRv a n
def aMean (a : zS) : UInt64 := if zPop (zFw a 0).2 12 = 0 then 0 else FP.ddiv (FP.i2d (iZ (zSi (aPaid a) 5))) (FP.i2d (nI (zPop (zFw a 0).2 12)))
theorem zSet_keep {a : zS} {bs : Nat → Int × Nat} {wb pd gw : Nat → Nat → Int} {bs' : Nat → Int × Nat} {wb' pd' gw' : Nat → Nat → Int} (h : zSet a bs wb pd gw 0 0) (hk : zSame 1 bs wb pd gw bs' wb' pd' gw') : zSet a bs' wb' pd' gw' 0 0 := by
  obtain ⟨h1, h2, h3, h4⟩ := hk 0 (by decide) (by decide)
  unfold zSet
  rw [h1, h2, h3, h4]
  exact h
theorem zSetPr_back (a : zS) (b x : Nat) : zSetPr (zSetPr a b x) b (zPr a b) = a := by
  show zMk _ _ _ _ _ _ _ (va_up (va_up (zPr a) b x) b (zPr a b)) _ _ = _
  rw [bx_uu, zup_id]
  rfl
theorem zSetPr_2 (a : zS) (b x y : Nat) : zSetPr (zSetPr a b x) b y = zSetPr a b y := by
  show zMk _ _ _ _ _ _ _ (va_up (va_up (zPr a) b x) b y) _ _ = _
  rw [bx_uu]
  rfl
theorem zGw_bnd {a : zS} (ha : zOk a) (ab d : Nat) : 0 ≤ zGw a ab d ∧ zGw a ab d ≤ 11988 := by
  unfold zGw
  split
  · have h := zFw_ok ha (ab ||| 2 ^ d)
    exact ⟨h.1, h.2.1⟩
  · omega
theorem zLp_bnd {a : zS} (ha : zOk a) (ab e : Nat) : ∀ n, n ≤ zNb a → -20000 ≤ zLp a ab n e ∧ zLp a ab n e ≤ 20000
  | 0, _ => by unfold zLp; omega
  | n + 1, h => by
    unfold zLp
    split
    · have h1 := zRes_le ha (zBu a n)
      have h2 := zGw_bnd ha ab e
      have h3 := zFw_ok ha ab
      have h4 := h3.1
      have h5 := h3.2.1
      have h6 := zGn_bnd ha (b := n) (by omega)
      omega
    · exact zLp_bnd ha ab e n (by omega)
theorem zSi_bnd {f : Nat → Int} {c : Int} (h : ∀ i, -c ≤ f i ∧ f i ≤ c) (hc : 0 ≤ c) : ∀ n : Nat, -(c * n) ≤ zSi f n ∧ zSi f n ≤ c * n
  | 0 => by simp [zSi]
  | n + 1 => by
    have h1 := zSi_bnd h hc n
    have h2 := h n
    unfold zSi
    have h3 : c * ((n + 1 : Nat) : Int) = c * n + c := by rw [Int.natCast_add, Int.mul_add]; simp
    omega
theorem aPs_bnd {a : zS} (ha : zOk a) (d : Nat) : -100000 ≤ aPs a d ∧ aPs a d ≤ 100000 := by
  have h := zSi_bnd (f := fun e => zLp a (2 ^ d) (zNb a) e) (c := 20000) (fun e => zLp_bnd ha (2 ^ d) e _ (Nat.le_refl _)) (by decide) 5
  unfold aPs
  omega
theorem zRv_bnd {a : zS} (ha : zOk a) : ∀ n, -100000 ≤ (zRv a n).2 ∧ (zRv a n).2 ≤ 100000
  | 0 => by unfold zRv; omega
  | n + 1 => by
    unfold zRv
    split
    · exact aPs_bnd ha n
    · exact zRv_bnd ha n
theorem inX2_mean_X0 : ∀ w ∈ wsX00, w ∈ wsX2_mean := fun w h => List.mem_cons_of_mem _ (List.mem_append_right _ (h))
theorem inX2_mean_X1 : ∀ w ∈ wsX10, w ∈ wsX2_mean := fun w h => List.mem_cons_of_mem _ (List.mem_append_left _ (List.mem_append_right _ (h)))
theorem inX2_mean_X2 : ∀ w ∈ wsX20, w ∈ wsX2_mean := fun w h => List.mem_cons_of_mem _ (List.mem_append_left _ (List.mem_append_left _ (List.mem_append_right _ (h))))
set_option maxRecDepth 100000 in
set_option maxHeartbeats 4000000 in
theorem c_X2_mean (l : Launch) (g : zG) (q : Nat → Nat) (a : zS) (bs : Nat → Int × Nat) (wb pd gw : Nat → Nat → Int) (ha : zOk a) (hs : zSet a bs wb pd gw 0 0)  : zM g l yX2_mean wsX2_mean { frames := 1, cells := 0, slots := 0, locals := 25 } [.ref (q 0)] (wB g q a (zG0 a) bs wb pd gw) (zPd (aMean a) (wB g q a (zG0 a) bs wb pd gw)) 0 0 := by
  refine zM.of (cc := cX2_mean) (nL := 2) (ret := (some .double)) (lv := [(0, .ref (q 0))]) (by decide) rfl (Nat.le_of_ble_eq_true rfl) rfl ?_
  intro E C0 hi
  have C : zC g E cX2_mean RX2 wsX2_mean 2 (some .double) := C0
  obtain ⟨hnf, hnd, hnb, hou, hrs, hbd⟩ := id ha
  have hxo := zFw_ok ha 0
  have hpl := zPop_le (bs 0).2 12
  refine z_aload_n C dX2_mean_0 0 rfl ?_
  refine z_get C inX2_mean_X2 0 wB_o rfl 11 (by decide) (C.w 1 rfl) rfl dX2_mean_1 ?_
  refine z_getN C inX2_mean_X1 (12 + 0) (wB_sl (z := 0) (by decide)) rfl 0 (by decide) 2 rfl rfl dX2_mean_4 ?_
  refine z_getN C inX2_mean_X0 (9 + 0) (wB_bs (z := 0) (by decide)) rfl 1 (by decide) 1 rfl rfl dX2_mean_7 ?_
  refine z_callS C (c_J6_bitCount_0f7a4 l g (wB g q a (zG0 a) bs wb pd gw) ((bs 0).2) (by rw [hs.1]; exact hxo.2.2)) (va_cwS 1 C.ts gX2_mean_J6_bitCount_0f7a4 rfl rfl rfl (by decide +kernel) ⟨Nat.le_of_ble_eq_true rfl, Nat.le_of_ble_eq_true rfl⟩) rfl rfl (Nat.le_of_ble_eq_true rfl) dX2_mean_10 ⟨Nat.zero_le _, Nat.zero_le _⟩ (z_i ?_)
  refine z_istore_n C dX2_mean_13 (by decide) [(1, .int (nI (zPop ((bs 0).2) 12))), (0, .ref (q 0))] rfl ?_
  refine z_iload_n C dX2_mean_14 0 rfl ?_
  refine z_if_ne C 20 dX2_mean_15 (by decide) (zeq_N0 (by omega)) (fun c_15 => ?_) (fun c_15 => ?_)
  · skip
    refine z_aload_n C dX2_mean_20 1 rfl ?_
    refine z_get C inX2_mean_X2 0 wB_o rfl 11 (by decide) (C.w 1 rfl) rfl dX2_mean_21 ?_
    refine z_callVN C (c_X1_totalPaid l g q a bs wb pd gw 0 (by decide)) ⟨va_cnB 0 C.ts ggX2_mean_X1_totalPaid rfl rfl rfl (C.K.2.1 _ (List.mem_of_getElem? (i := 14) rfl)) (C.w 10 rfl) (by decide +kernel) ⟨Nat.le_of_ble_eq_true rfl, Nat.le_of_ble_eq_true rfl⟩, (C.w 9 rfl), (C.w 11 rfl)⟩ (wB_sl (z := 0) (by decide)) rfl rfl rfl (Nat.le_of_ble_eq_true rfl) dX2_mean_24 ⟨Nat.zero_le _, Nat.zero_le _⟩ (z_i ?_)
    refine z_i2d C dX2_mean_27 ?_
    refine z_iload_n C dX2_mean_28 0 rfl ?_
    refine z_i2d C dX2_mean_29 ?_
    refine z_ddiv C dX2_mean_30 (zdiv_ok _ _ (fun h => c_15 ((zeq_N0 (by omega)).mp h))) ?_
    exact z_dretP C dX2_mean_31 (by unfold aMean; rw [← hs.1, if_neg c_15, zSi_cong 5 (fun d hd => hs.pd hd)]; rfl) rfl
  · skip
    refine z_dconst0 C dX2_mean_18 ?_
    exact z_dretP C dX2_mean_19 (by unfold aMean; rw [← hs.1, if_pos c_15]) rfl
