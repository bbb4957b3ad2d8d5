def zDg (f : Nat → Int) (d : Int64) : Nat → Int64
  | 0 => d
  | n + 1 => zDg f d n * 31 + (iZ (f n)).toInt64
def aDg2 (a : zS) : Nat → Int64
  | 0 => zDg (aCount a) 1619 9
  | n + 1 => zDg (aAlone a n) (zDg (aLand a n) (aDg2 a n) 3) 3
def aDg3 (a : zS) : Nat → Int64
  | 0 => aDg2 a (zNf a)
  | n + 1 => zDg (aAbout a n) (aDg3 a n) 6
def aDg4 (a : zS) : Nat → Int64
  | 0 => aDg3 a (zNd a)
  | n + 1 => zDg (aTold a n) (aDg4 a n) 8
def aDigest (a : zS) : Int64 := aDg4 a (zNb a)
def aWould (a : zS) (b x w : Nat) : Int := match w with
  | 0 => if (zFw (zSetPr a b x) 0).2.testBit b = true then 1 else 0
  | 1 => aPaid (zSetPr a b x) (zOw a b)
  | 2 => aProf (zSetPr a b x) (zOw a b)
  | _ => (zFw (zSetPr a b x) 0).1
/-- whether a bid would win with the price x -/
def aWins (a : zS) (b x : Nat) : Bool := (zFw (zSetPr a b x) 0).2.testBit b
def zLs (a : zS) (b : Nat) : Nat → Int → Int
  | 0, h => h
  | n + 1, h => zLs a b n (if h + ((2 ^ n : Nat) : Int) ≤ 999 ∧ aWins a b (h + ((2 ^ n : Nat) : Int)).toNat = false then h + ((2 ^ n : Nat) : Int) else h)
theorem zLs_s (a : zS) (b n : Nat) (h : Int) : zLs a b (n + 1) h = zLs a b n (if h + ((2 ^ n : Nat) : Int) ≤ 999 ∧ aWins a b (h + ((2 ^ n : Nat) : Int)).toNat = false then h + ((2 ^ n : Nat) : Int) else h) := rfl
def aLeast (a : zS) (b : Nat) : Int := if zLs a b 10 (-1) < 999 then zLs a b 10 (-1) + 1 else -1
/-- what all pay without the bidder d -/
def aPs (a : zS) (d : Nat) : Int := zSi (fun e => zLp a (2 ^ d) (zNb a) e) 5
def zRv (a : zS) : Nat → Int × Int
  | 0 => (-1, -1)
  | n + 1 => if (zRv a n).2 < aPs a n then ((n : Int), aPs a n) else zRv a n
def aMean (a : zS) : UInt64 := if zPop (zFw a 0).2 12 = 0 then 0 else FP.ddiv (FP.i2d (iZ (zSi (aPaid a) 5))) (FP.i2d (nI (zPop (zFw a 0).2 12)))
theorem zSet_keep {a : zS} {bs : Nat → Int × Nat} {wb pd gw : Nat → Nat → Int} {bs' : Nat → Int × Nat} {wb' pd' gw' : Nat → Nat → Int} (h : zSet a bs wb pd gw 0 0) (hk : zSame 1 bs wb pd gw bs' wb' pd' gw') : zSet a bs' wb' pd' gw' 0 0 := by
  obtain ⟨h1, h2, h3, h4⟩ := hk 0 (by decide) (by decide)
  unfold zSet
  rw [h1, h2, h3, h4]
  exact h
theorem zSetPr_back (a : zS) (b x : Nat) : zSetPr (zSetPr a b x) b (zPr a b) = a := by
  show zMk _ _ _ _ _ _ _ (va_up (va_up (zPr a) b x) b (zPr a b)) _ _ = _
  rw [bx_uu, zup_id]
  rfl
theorem zSetPr_2 (a : zS) (b x y : Nat) : zSetPr (zSetPr a b x) b y = zSetPr a b y := by
  show zMk _ _ _ _ _ _ _ (va_up (va_up (zPr a) b x) b y) _ _ = _
  rw [bx_uu]
  rfl
theorem zGw_bnd {a : zS} (ha : zOk a) (ab d : Nat) : 0 ≤ zGw a ab d ∧ zGw a ab d ≤ 11988 := by
  unfold zGw
  split
  · have h := zFw_ok ha (ab ||| 2 ^ d)
    exact ⟨h.1, h.2.1⟩
  · omega
theorem zLp_bnd {a : zS} (ha : zOk a) (ab e : Nat) : ∀ n, n ≤ zNb a → -20000 ≤ zLp a ab n e ∧ zLp a ab n e ≤ 20000
  | 0, _ => by unfold zLp; omega
  | n + 1, h => by
    unfold zLp
    split
    · have h1 := zRes_le ha (zBu a n)
      have h2 := zGw_bnd ha ab e
      have h3 := zFw_ok ha ab
      have h4 := h3.1
      have h5 := h3.2.1
      have h6 := zGn_bnd ha (b := n) (by omega)
      omega
    · exact zLp_bnd ha ab e n (by omega)
theorem zSi_bnd {f : Nat → Int} {c : Int} (h : ∀ i, -c ≤ f i ∧ f i ≤ c) (hc : 0 ≤ c) : ∀ n : Nat, -(c * n) ≤ zSi f n ∧ zSi f n ≤ c * n
  | 0 => by simp [zSi]
  | n + 1 => by
    have h1 := zSi_bnd h hc n
    have h2 := h n
    unfold zSi
    have h3 : c * ((n + 1 : Nat) : Int) = c * n + c := by rw [Int.natCast_add, Int.mul_add]; simp
    omega
theorem aPs_bnd {a : zS} (ha : zOk a) (d : Nat) : -100000 ≤ aPs a d ∧ aPs a d ≤ 100000 := by
  have h := zSi_bnd (f := fun e => zLp a (2 ^ d) (zNb a) e) (c := 20000) (fun e => zLp_bnd ha (2 ^ d) e _ (Nat.le_refl _)) (by decide) 5
  unfold aPs
  omega
theorem zRv_bnd {a : zS} (ha : zOk a) : ∀ n, -100000 ≤ (zRv a n).2 ∧ (zRv a n).2 ≤ 100000
  | 0 => by unfold zRv; omega
  | n + 1 => by
    unfold zRv
    split
    · exact aPs_bnd ha n
    · exact zRv_bnd ha n
set_option maxRecDepth 100000 in
set_option maxHeartbeats 4000000 in
theorem c_X2_digestField (l : Launch) (g : zG) (q : Nat → Nat) (a : zS) (bs : Nat → Int × Nat) (wb pd gw : Nat → Nat → Int) (ha : zOk a) (hs : zSet a bs wb pd gw 0 0) (d : Int64) (f : Nat) (hf : f < zNf a) : zM g l yX2_digestField wsX2_digestField { frames := 4, cells := 0, slots := 0, locals := 92 } [.ref (q 0), .long d, .int (nI f)] (wB g q a (zG0 a) bs wb pd gw) (zPl (zDg (aAlone a f) (zDg (aLand a f) d 3) 3) (wB g q a (zG0 a) bs wb pd gw)) 0 0 := by
  refine zM.of (cc := cX2_digestField) (nL := 7) (ret := (some .long)) (lv := [(0, .ref (q 0)), (1, .long d), (3, .int (nI f))]) (by decide) rfl (Nat.le_of_ble_eq_true rfl) rfl ?_
  intro E C0 hi
  have C : zC g E cX2_digestField RX2 wsX2_digestField 7 (some .long) := C0
  obtain ⟨hnf, hnd, hnb, hou, hrs, hbd⟩ := id ha
  have hxo := zFw_ok ha 0
  refine z_lload_n C dX2_digestField_0 1 rfl ?_
  refine z_lstore C dX2_digestField_1 (by decide) [(4, .long d), (0, .ref (q 0)), (1, .long d), (3, .int (nI f))] rfl ?_
  refine z_iconst C (nI 0) dX2_digestField_3 (by decide) ?_
  refine z_istore C dX2_digestField_4 (by decide) [(6, .int (nI 0)), (4, .long d), (0, .ref (q 0)), (1, .long d), (3, .int (nI f))] rfl ?_
  refine zW.pick (lv' := [(0, .ref (q 0)), (3, .int (nI f)), (4, .long d), (6, .int (nI 0))]) [2, 4, 1, 0] rfl ?_
  have hlp6 : ∀ (k i : Nat), i + k = 3 → zW g l ({ frames := 4, cells := 0, slots := 0, locals := 92 }) E (zMQ g E (zPl (zDg (aAlone a f) (zDg (aLand a f) d 3) 3) (wB g q a (zG0 a) bs wb pd gw)) 0 0) 7 0 0 (wB g q a (zG0 a) bs wb pd gw) [(0, .ref (q 0)), (3, .int (nI f)), (4, .long (zDg (aLand a f) d i)), (6, .int (nI i))] [] 6 := by
    intro k
    induction k with
    | zero =>
      intro i hik
      refine z_iload C dX2_digestField_6 3 rfl ?_
      refine z_iconst C (nI 2) dX2_digestField_8 (by decide) ?_
      refine z_icmp_gt C 35 dX2_digestField_9 (by decide) (zlt_NN (by omega) (by omega)) (fun c_9 => ?_) (fun h9 => absurd (by omega) h9)
      rw [show i = 3 by omega]
      refine z_iconst C (nI 0) dX2_digestField_35 (by decide) ?_
      refine z_istore C dX2_digestField_36 (by decide) [(6, .int (nI 0)), (0, .ref (q 0)), (3, .int (nI f)), (4, .long (zDg (aLand a f) d 3))] rfl ?_
      refine zW.pick (lv' := [(0, .ref (q 0)), (3, .int (nI f)), (4, .long (zDg (aLand a f) d 3)), (6, .int (nI 0))]) [1, 2, 3, 0] rfl ?_
      have hlp38 : ∀ (kj j : Nat), j + kj = 3 → zW g l ({ frames := 4, cells := 0, slots := 0, locals := 92 }) E (zMQ g E (zPl (zDg (aAlone a f) (zDg (aLand a f) d 3) 3) (wB g q a (zG0 a) bs wb pd gw)) 0 0) 7 0 0 (wB g q a (zG0 a) bs wb pd gw) [(0, .ref (q 0)), (3, .int (nI f)), (4, .long (zDg (aAlone a f) (zDg (aLand a f) d 3) j)), (6, .int (nI j))] [] 38 := by
        intro kj
        induction kj with
        | zero =>
          intro j hjk
          refine z_iload C dX2_digestField_38 3 rfl ?_
          refine z_iconst C (nI 2) dX2_digestField_40 (by decide) ?_
          refine z_icmp_gt C 67 dX2_digestField_41 (by decide) (zlt_NN (by omega) (by omega)) (fun c_41 => ?_) (fun h9 => absurd (by omega) h9)
          refine z_lload C dX2_digestField_67 2 rfl ?_
          exact z_lretP C dX2_digestField_69 (by rw [show j = 3 by omega]) rfl
        | succ kj ih38 =>
          intro j hjk
          refine z_iload C dX2_digestField_38 3 rfl ?_
          refine z_iconst C (nI 2) dX2_digestField_40 (by decide) ?_
          refine z_icmp_gt C 67 dX2_digestField_41 (by decide) (zlt_NN (by omega) (by omega)) (fun h9 => absurd h9 (by omega)) (fun c_41 => ?_)
          refine z_lload C dX2_digestField_44 2 rfl ?_
          refine z_ldc2 C (31) (C.w 1 rfl) dX2_digestField_46 ?_
          refine z_lmul C dX2_digestField_49 (v := (zDg (aAlone a f) (zDg (aLand a f) d 3) j) * (31)) rfl ?_
          refine z_aload_n C dX2_digestField_50 0 rfl ?_
          refine z_iload_n C dX2_digestField_51 1 rfl ?_
          refine z_iload C dX2_digestField_52 3 rfl ?_
          refine z_callV C (c_X2_alone l g q a bs wb pd gw ha hs f j (by omega) (by omega)) (cwV 2 C.ts gX2_digestField_X2_alone rfl rfl rfl (by decide +kernel) ⟨Nat.le_of_ble_eq_true rfl, Nat.le_of_ble_eq_true rfl⟩) wB_o rfl rfl rfl (Nat.le_of_ble_eq_true rfl) dX2_digestField_54 ⟨Nat.zero_le _, Nat.zero_le _⟩ (z_i ?_)
          refine z_i2l C dX2_digestField_57 (v := (iZ (aAlone a f j)).toInt64) rfl ?_
          refine z_ladd C dX2_digestField_58 (v := ((zDg (aAlone a f) (zDg (aLand a f) d 3) j) * (31)) + ((iZ (aAlone a f j)).toInt64)) rfl ?_
          refine z_lstore C dX2_digestField_59 (by decide) [(4, .long (((zDg (aAlone a f) (zDg (aLand a f) d 3) j) * (31)) + ((iZ (aAlone a f j)).toInt64))), (0, .ref (q 0)), (3, .int (nI f)), (6, .int (nI j))] rfl ?_
          refine z_iinc C dX2_digestField_61 3 (nI (j + 1)) rfl (nI_add j 1) (by decide) [(6, .int (nI (j + 1))), (4, .long (((zDg (aAlone a f) (zDg (aLand a f) d 3) j) * (31)) + ((iZ (aAlone a f j)).toInt64))), (0, .ref (q 0)), (3, .int (nI f))] rfl ?_
          refine z_goto C 38 dX2_digestField_64 (by decide) ?_
          refine zW.pick (lv' := [(0, .ref (q 0)), (3, .int (nI f)), (4, .long (((zDg (aAlone a f) (zDg (aLand a f) d 3) j) * (31)) + ((iZ (aAlone a f j)).toInt64))), (6, .int (nI (j + 1)))]) [2, 3, 1, 0] rfl ?_
          refine zW.lve (lv' := [(0, .ref (q 0)), (3, .int (nI f)), (4, .long (zDg (aAlone a f) (zDg (aLand a f) d 3) (j + 1))), (6, .int (nI (j + 1)))]) (rfl) ?_
          exact ih38 (j + 1) (by omega)
      exact hlp38 (3) 0 (by omega)
    | succ k ih6 =>
      intro i hik
      refine z_iload C dX2_digestField_6 3 rfl ?_
      refine z_iconst C (nI 2) dX2_digestField_8 (by decide) ?_
      refine z_icmp_gt C 35 dX2_digestField_9 (by decide) (zlt_NN (by omega) (by omega)) (fun h9 => absurd h9 (by omega)) (fun c_9 => ?_)
      refine z_lload C dX2_digestField_12 2 rfl ?_
      refine z_ldc2 C (31) (C.w 1 rfl) dX2_digestField_14 ?_
      refine z_lmul C dX2_digestField_17 (v := (zDg (aLand a f) d i) * (31)) rfl ?_
      refine z_aload_n C dX2_digestField_18 0 rfl ?_
      refine z_iload_n C dX2_digestField_19 1 rfl ?_
      refine z_iload C dX2_digestField_20 3 rfl ?_
      refine z_callV C (c_X2_land l g q a bs wb pd gw ha hs f i (by omega) (by omega)) (cwV 2 C.ts gX2_digestField_X2_land rfl rfl rfl (by decide +kernel) ⟨Nat.le_of_ble_eq_true rfl, Nat.le_of_ble_eq_true rfl⟩) wB_o rfl rfl rfl (Nat.le_of_ble_eq_true rfl) dX2_digestField_22 ⟨Nat.zero_le _, Nat.zero_le _⟩ (z_i ?_)
      refine z_i2l C dX2_digestField_25 (v := (iZ (aLand a f i)).toInt64) rfl ?_
      refine z_ladd C dX2_digestField_26 (v := ((zDg (aLand a f) d i) * (31)) + ((iZ (aLand a f i)).toInt64)) rfl ?_
      refine z_lstore C dX2_digestField_27 (by decide) [(4, .long (((zDg (aLand a f) d i) * (31)) + ((iZ (aLand a f i)).toInt64))), (0, .ref (q 0)), (3, .int (nI f)), (6, .int (nI i))] rfl ?_
      refine z_iinc C dX2_digestField_29 3 (nI (i + 1)) rfl (nI_add i 1) (by decide) [(6, .int (nI (i + 1))), (4, .long (((zDg (aLand a f) d i) * (31)) + ((iZ (aLand a f i)).toInt64))), (0, .ref (q 0)), (3, .int (nI f))] rfl ?_
      refine z_goto C 6 dX2_digestField_32 (by decide) ?_
      refine zW.pick (lv' := [(0, .ref (q 0)), (3, .int (nI f)), (4, .long (((zDg (aLand a f) d i) * (31)) + ((iZ (aLand a f i)).toInt64))), (6, .int (nI (i + 1)))]) [2, 3, 1, 0] rfl ?_
      refine zW.lve (lv' := [(0, .ref (q 0)), (3, .int (nI f)), (4, .long (zDg (aLand a f) d (i + 1))), (6, .int (nI (i + 1)))]) (rfl) ?_
      exact ih6 (i + 1) (by omega)
  exact hlp6 (3) 0 (by omega)
theorem inX2_digest_X2 : ∀ w ∈ wsX20, w ∈ wsX2_digest := fun w h => List.mem_cons_of_mem _ (List.mem_append_left _ (List.mem_append_left _ (List.mem_append_left _ (List.mem_append_right _ (h)))))
set_option maxRecDepth 100000 in
set_option maxHeartbeats 4000000 in
theorem c_X2_digest (l : Launch) (g : zG) (q : Nat → Nat) (a : zS) (bs : Nat → Int × Nat) (wb pd gw : Nat → Nat → Int) (ha : zOk a) (hs : zSet a bs wb pd gw 0 0)  : zM g l yX2_digest wsX2_digest { frames := 5, cells := 0, slots := 0, locals := 118 } [.ref (q 0)] (wB g q a (zG0 a) bs wb pd gw) (zPl (aDigest a) (wB g q a (zG0 a) bs wb pd gw)) 0 0 := by
  refine zM.of (cc := cX2_digest) (nL := 5) (ret := (some .long)) (lv := [(0, .ref (q 0))]) (by decide) rfl (Nat.le_of_ble_eq_true rfl) rfl ?_
  intro E C0 hi
  have C : zC g E cX2_digest RX2 wsX2_digest 5 (some .long) := C0
  obtain ⟨hnf, hnd, hnb, hou, hrs, hbd⟩ := id ha
  have hxo := zFw_ok ha 0
  refine z_ldc2 C (1619) (C.w 1 rfl) dX2_digest_0 ?_
  refine z_lstore_n C dX2_digest_3 (by decide) [(1, .long (1619)), (0, .ref (q 0))] rfl ?_
  refine z_iconst C (nI 0) dX2_digest_4 (by decide) ?_
  refine z_istore_n C dX2_digest_5 (by decide) [(3, .int (nI 0)), (1, .long (1619)), (0, .ref (q 0))] rfl ?_
  refine zW.pick (lv' := [(0, .ref (q 0)), (1, .long (1619)), (3, .int (nI 0))]) [2, 1, 0] rfl ?_
  have hlp6 : ∀ (k i : Nat), i + k = 9 → zW g l ({ frames := 5, cells := 0, slots := 0, locals := 118 }) E (zMQ g E (zPl (aDigest a) (wB g q a (zG0 a) bs wb pd gw)) 0 0) 5 0 0 (wB g q a (zG0 a) bs wb pd gw) [(0, .ref (q 0)), (1, .long (zDg (aCount a) 1619 i)), (3, .int (nI i))] [] 6 := by
    intro k
    induction k with
    | zero =>
      intro i hik
      refine z_iload_n C dX2_digest_6 2 rfl ?_
      refine z_bipush C (nI 8) dX2_digest_7 (by decide) ?_
      refine z_icmp_gt C 31 dX2_digest_9 (by decide) (zlt_NN (by omega) (by omega)) (fun c_9 => ?_) (fun h9 => absurd (by omega) h9)
      rw [show i = 9 by omega]
      refine z_iconst C (nI 0) dX2_digest_31 (by decide) ?_
      refine z_istore_n C dX2_digest_32 (by decide) [(3, .int (nI 0)), (0, .ref (q 0)), (1, .long (zDg (aCount a) 1619 9))] rfl ?_
      refine zW.pick (lv' := [(0, .ref (q 0)), (1, .long (zDg (aCount a) 1619 9)), (3, .int (nI 0))]) [1, 2, 0] rfl ?_
      have hlp33 : ∀ (k2 b2 : Nat), b2 + k2 = zNf a → zW g l ({ frames := 5, cells := 0, slots := 0, locals := 118 }) E (zMQ g E (zPl (aDigest a) (wB g q a (zG0 a) bs wb pd gw)) 0 0) 5 0 0 (wB g q a (zG0 a) bs wb pd gw) [(0, .ref (q 0)), (1, .long (aDg2 a b2)), (3, .int (nI b2))] [] 33 := by
        intro k2
        induction k2 with
        | zero =>
          intro b2 hb2k
          refine z_iload_n C dX2_digest_33 2 rfl ?_
          refine z_aload_n C dX2_digest_34 0 rfl ?_
          refine z_get C inX2_digest_X2 0 wB_o rfl 1 (by decide) (C.w 3 rfl) rfl dX2_digest_35 ?_
          refine z_icmp_ge C 54 dX2_digest_38 (by decide) (zle_NN (by omega) (by omega)) (fun c_38 => ?_) (fun h9 => absurd (by omega) h9)
          rw [show b2 = zNf a by omega]
          refine z_iconst C (nI 0) dX2_digest_54 (by decide) ?_
          refine z_istore_n C dX2_digest_55 (by decide) [(3, .int (nI 0)), (0, .ref (q 0)), (1, .long (aDg2 a (zNf a)))] rfl ?_
          refine zW.pick (lv' := [(0, .ref (q 0)), (1, .long (aDg2 a (zNf a))), (3, .int (nI 0))]) [1, 2, 0] rfl ?_
          have hlp56 : ∀ (k3 b3 : Nat), b3 + k3 = zNd a → zW g l ({ frames := 5, cells := 0, slots := 0, locals := 118 }) E (zMQ g E (zPl (aDigest a) (wB g q a (zG0 a) bs wb pd gw)) 0 0) 5 0 0 (wB g q a (zG0 a) bs wb pd gw) [(0, .ref (q 0)), (1, .long (aDg3 a b3)), (3, .int (nI b3))] [] 56 := by
            intro k3
            induction k3 with
            | zero =>
              intro b3 hb3k
              refine z_iload_n C dX2_digest_56 2 rfl ?_
              refine z_aload_n C dX2_digest_57 0 rfl ?_
              refine z_get C inX2_digest_X2 0 wB_o rfl 3 (by decide) (C.w 4 rfl) rfl dX2_digest_58 ?_
              refine z_icmp_ge C 100 dX2_digest_61 (by decide) (zle_NN (by omega) (by omega)) (fun c_61 => ?_) (fun h9 => absurd (by omega) h9)
              rw [show b3 = zNd a by omega]
              refine z_iconst C (nI 0) dX2_digest_100 (by decide) ?_
              refine z_istore_n C dX2_digest_101 (by decide) [(3, .int (nI 0)), (0, .ref (q 0)), (1, .long (aDg3 a (zNd a)))] rfl ?_
              refine zW.pick (lv' := [(0, .ref (q 0)), (1, .long (aDg3 a (zNd a))), (3, .int (nI 0))]) [1, 2, 0] rfl ?_
              have hlp102 : ∀ (k4 b4 : Nat), b4 + k4 = zNb a → zW g l ({ frames := 5, cells := 0, slots := 0, locals := 118 }) E (zMQ g E (zPl (aDigest a) (wB g q a (zG0 a) bs wb pd gw)) 0 0) 5 0 0 (wB g q a (zG0 a) bs wb pd gw) [(0, .ref (q 0)), (1, .long (aDg4 a b4)), (3, .int (nI b4))] [] 102 := by
                intro k4
                induction k4 with
                | zero =>
                  intro b4 hb4k
                  refine z_iload_n C dX2_digest_102 2 rfl ?_
                  refine z_aload_n C dX2_digest_103 0 rfl ?_
                  refine z_get C inX2_digest_X2 0 wB_o rfl 10 (by decide) (C.w 5 rfl) rfl dX2_digest_104 ?_
                  refine z_icmp_ge C 147 dX2_digest_107 (by decide) (zle_NN (by omega) (by omega)) (fun c_107 => ?_) (fun h9 => absurd (by omega) h9)
                  refine z_lload_n C dX2_digest_147 1 rfl ?_
                  exact z_lretP C dX2_digest_148 (by rw [show b4 = zNb a by omega]; rfl) rfl
                | succ k4 ih102 =>
                  intro b4 hb4k
                  refine z_iload_n C dX2_digest_102 2 rfl ?_
                  refine z_aload_n C dX2_digest_103 0 rfl ?_
                  refine z_get C inX2_digest_X2 0 wB_o rfl 10 (by decide) (C.w 5 rfl) rfl dX2_digest_104 ?_
                  refine z_icmp_ge C 147 dX2_digest_107 (by decide) (zle_NN (by omega) (by omega)) (fun h9 => absurd h9 (by omega)) (fun c_107 => ?_)
                  refine z_iconst C (nI 0) dX2_digest_110 (by decide) ?_
                  refine z_istore C dX2_digest_111 (by decide) [(4, .int (nI 0)), (0, .ref (q 0)), (1, .long (aDg4 a b4)), (3, .int (nI b4))] rfl ?_
                  refine zW.pick (lv' := [(0, .ref (q 0)), (1, .long (aDg4 a b4)), (3, .int (nI b4)), (4, .int (nI 0))]) [1, 2, 3, 0] rfl ?_
                  have hlp113 : ∀ (kj4 j4 : Nat), j4 + kj4 = 8 → zW g l ({ frames := 5, cells := 0, slots := 0, locals := 118 }) E (zMQ g E (zPl (aDigest a) (wB g q a (zG0 a) bs wb pd gw)) 0 0) 5 0 0 (wB g q a (zG0 a) bs wb pd gw) [(0, .ref (q 0)), (1, .long (zDg (aTold a b4) (aDg4 a b4) j4)), (3, .int (nI b4)), (4, .int (nI j4))] [] 113 := by
                    intro kj4
                    induction kj4 with
                    | zero =>
                      intro j4 hj4k
                      refine z_iload C dX2_digest_113 3 rfl ?_
                      refine z_bipush C (nI 7) dX2_digest_115 (by decide) ?_
                      refine z_icmp_gt C 141 dX2_digest_117 (by decide) (zlt_NN (by omega) (by omega)) (fun c_117 => ?_) (fun h9 => absurd (by omega) h9)
                      refine z_iinc C dX2_digest_141 2 (nI (b4 + 1)) rfl (nI_add b4 1) (by decide) [(3, .int (nI (b4 + 1))), (0, .ref (q 0)), (1, .long (zDg (aTold a b4) (aDg4 a b4) j4)), (4, .int (nI j4))] rfl ?_
                      refine z_goto C 102 dX2_digest_144 (by decide) ?_
                      refine zW.pick (lv' := [(0, .ref (q 0)), (1, .long (zDg (aTold a b4) (aDg4 a b4) j4)), (3, .int (nI (b4 + 1)))]) [1, 2, 0] rfl ?_
                      refine zW.lve (lv' := [(0, .ref (q 0)), (1, .long (aDg4 a (b4 + 1))), (3, .int (nI (b4 + 1)))]) ((by rw [show j4 = 8 by omega]; rfl)) ?_
                      exact ih102 (b4 + 1) (by omega)
                    | succ kj4 ih113 =>
                      intro j4 hj4k
                      refine z_iload C dX2_digest_113 3 rfl ?_
                      refine z_bipush C (nI 7) dX2_digest_115 (by decide) ?_
                      refine z_icmp_gt C 141 dX2_digest_117 (by decide) (zlt_NN (by omega) (by omega)) (fun h9 => absurd h9 (by omega)) (fun c_117 => ?_)
                      refine z_lload_n C dX2_digest_120 1 rfl ?_
                      refine z_ldc2 C (31) (C.w 2 rfl) dX2_digest_121 ?_
                      refine z_lmul C dX2_digest_124 (v := (zDg (aTold a b4) (aDg4 a b4) j4) * (31)) rfl ?_
                      refine z_aload_n C dX2_digest_125 0 rfl ?_
                      refine z_iload_n C dX2_digest_126 2 rfl ?_
                      refine z_iload C dX2_digest_127 3 rfl ?_
                      refine z_callV C (c_X2_told l g q a bs wb pd gw ha hs b4 j4 (by omega) (by omega)) (cwV 2 C.ts gX2_digest_X2_told rfl rfl rfl (by decide +kernel) ⟨Nat.le_of_ble_eq_true rfl, Nat.le_of_ble_eq_true rfl⟩) wB_o rfl rfl rfl (Nat.le_of_ble_eq_true rfl) dX2_digest_129 ⟨Nat.zero_le _, Nat.zero_le _⟩ (z_i ?_)
                      refine z_i2l C dX2_digest_132 (v := (iZ (aTold a b4 j4)).toInt64) rfl ?_
                      refine z_ladd C dX2_digest_133 (v := ((zDg (aTold a b4) (aDg4 a b4) j4) * (31)) + ((iZ (aTold a b4 j4)).toInt64)) rfl ?_
                      refine z_lstore_n C dX2_digest_134 (by decide) [(1, .long (((zDg (aTold a b4) (aDg4 a b4) j4) * (31)) + ((iZ (aTold a b4 j4)).toInt64))), (0, .ref (q 0)), (3, .int (nI b4)), (4, .int (nI j4))] rfl ?_
                      refine z_iinc C dX2_digest_135 3 (nI (j4 + 1)) rfl (nI_add j4 1) (by decide) [(4, .int (nI (j4 + 1))), (1, .long (((zDg (aTold a b4) (aDg4 a b4) j4) * (31)) + ((iZ (aTold a b4 j4)).toInt64))), (0, .ref (q 0)), (3, .int (nI b4))] rfl ?_
                      refine z_goto C 113 dX2_digest_138 (by decide) ?_
                      refine zW.pick (lv' := [(0, .ref (q 0)), (1, .long (((zDg (aTold a b4) (aDg4 a b4) j4) * (31)) + ((iZ (aTold a b4 j4)).toInt64))), (3, .int (nI b4)), (4, .int (nI (j4 + 1)))]) [2, 1, 3, 0] rfl ?_
                      refine zW.lve (lv' := [(0, .ref (q 0)), (1, .long (zDg (aTold a b4) (aDg4 a b4) (j4 + 1))), (3, .int (nI b4)), (4, .int (nI (j4 + 1)))]) (rfl) ?_
                      exact ih113 (j4 + 1) (by omega)
                  exact hlp113 (8) 0 (by omega)
              exact hlp102 (zNb a) 0 (by omega)
            | succ k3 ih56 =>
              intro b3 hb3k
              refine z_iload_n C dX2_digest_56 2 rfl ?_
              refine z_aload_n C dX2_digest_57 0 rfl ?_
              refine z_get C inX2_digest_X2 0 wB_o rfl 3 (by decide) (C.w 4 rfl) rfl dX2_digest_58 ?_
              refine z_icmp_ge C 100 dX2_digest_61 (by decide) (zle_NN (by omega) (by omega)) (fun h9 => absurd h9 (by omega)) (fun c_61 => ?_)
              refine z_iconst C (nI 0) dX2_digest_64 (by decide) ?_
              refine z_istore C dX2_digest_65 (by decide) [(4, .int (nI 0)), (0, .ref (q 0)), (1, .long (aDg3 a b3)), (3, .int (nI b3))] rfl ?_
              refine zW.pick (lv' := [(0, .ref (q 0)), (1, .long (aDg3 a b3)), (3, .int (nI b3)), (4, .int (nI 0))]) [1, 2, 3, 0] rfl ?_
              have hlp67 : ∀ (kj3 j3 : Nat), j3 + kj3 = 6 → zW g l ({ frames := 5, cells := 0, slots := 0, locals := 118 }) E (zMQ g E (zPl (aDigest a) (wB g q a (zG0 a) bs wb pd gw)) 0 0) 5 0 0 (wB g q a (zG0 a) bs wb pd gw) [(0, .ref (q 0)), (1, .long (zDg (aAbout a b3) (aDg3 a b3) j3)), (3, .int (nI b3)), (4, .int (nI j3))] [] 67 := by
                intro kj3
                induction kj3 with
                | zero =>
                  intro j3 hj3k
                  refine z_iload C dX2_digest_67 3 rfl ?_
                  refine z_iconst C (nI 5) dX2_digest_69 (by decide) ?_
                  refine z_icmp_gt C 94 dX2_digest_70 (by decide) (zlt_NN (by omega) (by omega)) (fun c_70 => ?_) (fun h9 => absurd (by omega) h9)
                  refine z_iinc C dX2_digest_94 2 (nI (b3 + 1)) rfl (nI_add b3 1) (by decide) [(3, .int (nI (b3 + 1))), (0, .ref (q 0)), (1, .long (zDg (aAbout a b3) (aDg3 a b3) j3)), (4, .int (nI j3))] rfl ?_
                  refine z_goto C 56 dX2_digest_97 (by decide) ?_
                  refine zW.pick (lv' := [(0, .ref (q 0)), (1, .long (zDg (aAbout a b3) (aDg3 a b3) j3)), (3, .int (nI (b3 + 1)))]) [1, 2, 0] rfl ?_
                  refine zW.lve (lv' := [(0, .ref (q 0)), (1, .long (aDg3 a (b3 + 1))), (3, .int (nI (b3 + 1)))]) ((by rw [show j3 = 6 by omega]; rfl)) ?_
                  exact ih56 (b3 + 1) (by omega)
                | succ kj3 ih67 =>
                  intro j3 hj3k
                  refine z_iload C dX2_digest_67 3 rfl ?_
                  refine z_iconst C (nI 5) dX2_digest_69 (by decide) ?_
                  refine z_icmp_gt C 94 dX2_digest_70 (by decide) (zlt_NN (by omega) (by omega)) (fun h9 => absurd h9 (by omega)) (fun c_70 => ?_)
                  refine z_lload_n C dX2_digest_73 1 rfl ?_
                  refine z_ldc2 C (31) (C.w 2 rfl) dX2_digest_74 ?_
                  refine z_lmul C dX2_digest_77 (v := (zDg (aAbout a b3) (aDg3 a b3) j3) * (31)) rfl ?_
                  refine z_aload_n C dX2_digest_78 0 rfl ?_
                  refine z_iload_n C dX2_digest_79 2 rfl ?_
                  refine z_iload C dX2_digest_80 3 rfl ?_
                  refine z_callV C (c_X2_about l g q a bs wb pd gw ha hs b3 j3 (by omega) (by omega)) (cwV 2 C.ts gX2_digest_X2_about rfl rfl rfl (by decide +kernel) ⟨Nat.le_of_ble_eq_true rfl, Nat.le_of_ble_eq_true rfl⟩) wB_o rfl rfl rfl (Nat.le_of_ble_eq_true rfl) dX2_digest_82 ⟨Nat.zero_le _, Nat.zero_le _⟩ (z_i ?_)
                  refine z_i2l C dX2_digest_85 (v := (iZ (aAbout a b3 j3)).toInt64) rfl ?_
                  refine z_ladd C dX2_digest_86 (v := ((zDg (aAbout a b3) (aDg3 a b3) j3) * (31)) + ((iZ (aAbout a b3 j3)).toInt64)) rfl ?_
                  refine z_lstore_n C dX2_digest_87 (by decide) [(1, .long (((zDg (aAbout a b3) (aDg3 a b3) j3) * (31)) + ((iZ (aAbout a b3 j3)).toInt64))), (0, .ref (q 0)), (3, .int (nI b3)), (4, .int (nI j3))] rfl ?_
                  refine z_iinc C dX2_digest_88 3 (nI (j3 + 1)) rfl (nI_add j3 1) (by decide) [(4, .int (nI (j3 + 1))), (1, .long (((zDg (aAbout a b3) (aDg3 a b3) j3) * (31)) + ((iZ (aAbout a b3 j3)).toInt64))), (0, .ref (q 0)), (3, .int (nI b3))] rfl ?_
                  refine z_goto C 67 dX2_digest_91 (by decide) ?_
                  refine zW.pick (lv' := [(0, .ref (q 0)), (1, .long (((zDg (aAbout a b3) (aDg3 a b3) j3) * (31)) + ((iZ (aAbout a b3 j3)).toInt64))), (3, .int (nI b3)), (4, .int (nI (j3 + 1)))]) [2, 1, 3, 0] rfl ?_
                  refine zW.lve (lv' := [(0, .ref (q 0)), (1, .long (zDg (aAbout a b3) (aDg3 a b3) (j3 + 1))), (3, .int (nI b3)), (4, .int (nI (j3 + 1)))]) (rfl) ?_
                  exact ih67 (j3 + 1) (by omega)
              exact hlp67 (6) 0 (by omega)
          exact hlp56 (zNd a) 0 (by omega)
        | succ k2 ih33 =>
          intro b2 hb2k
          refine z_iload_n C dX2_digest_33 2 rfl ?_
          refine z_aload_n C dX2_digest_34 0 rfl ?_
          refine z_get C inX2_digest_X2 0 wB_o rfl 1 (by decide) (C.w 3 rfl) rfl dX2_digest_35 ?_
          refine z_icmp_ge C 54 dX2_digest_38 (by decide) (zle_NN (by omega) (by omega)) (fun h9 => absurd h9 (by omega)) (fun c_38 => ?_)
          refine z_aload_n C dX2_digest_41 0 rfl ?_
          refine z_lload_n C dX2_digest_42 1 rfl ?_
          refine z_iload_n C dX2_digest_43 2 rfl ?_
          refine z_callV C (c_X2_digestField l g q a bs wb pd gw ha hs (aDg2 a b2) b2 (by omega)) (cwV 2 C.ts gX2_digest_X2_digestField rfl rfl rfl (by decide +kernel) ⟨Nat.le_of_ble_eq_true rfl, Nat.le_of_ble_eq_true rfl⟩) wB_o rfl rfl rfl (Nat.le_of_ble_eq_true rfl) dX2_digest_44 ⟨Nat.zero_le _, Nat.zero_le _⟩ (z_l ?_)
          refine z_lstore_n C dX2_digest_47 (by decide) [(1, .long (zDg (aAlone a b2) (zDg (aLand a b2) (aDg2 a b2) 3) 3)), (0, .ref (q 0)), (3, .int (nI b2))] rfl ?_
          refine z_iinc C dX2_digest_48 2 (nI (b2 + 1)) rfl (nI_add b2 1) (by decide) [(3, .int (nI (b2 + 1))), (1, .long (zDg (aAlone a b2) (zDg (aLand a b2) (aDg2 a b2) 3) 3)), (0, .ref (q 0))] rfl ?_
          refine z_goto C 33 dX2_digest_51 (by decide) ?_
          refine zW.pick (lv' := [(0, .ref (q 0)), (1, .long (zDg (aAlone a b2) (zDg (aLand a b2) (aDg2 a b2) 3) 3)), (3, .int (nI (b2 + 1)))]) [2, 1, 0] rfl ?_
          refine zW.lve (lv' := [(0, .ref (q 0)), (1, .long (aDg2 a (b2 + 1))), (3, .int (nI (b2 + 1)))]) (rfl) ?_
          exact ih33 (b2 + 1) (by omega)
      exact hlp33 (zNf a) 0 (by omega)
    | succ k ih6 =>
      intro i hik
      refine z_iload_n C dX2_digest_6 2 rfl ?_
      refine z_bipush C (nI 8) dX2_digest_7 (by decide) ?_
      refine z_icmp_gt C 31 dX2_digest_9 (by decide) (zlt_NN (by omega) (by omega)) (fun h9 => absurd h9 (by omega)) (fun c_9 => ?_)
      refine z_lload_n C dX2_digest_12 1 rfl ?_
      refine z_ldc2 C (31) (C.w 2 rfl) dX2_digest_13 ?_
      refine z_lmul C dX2_digest_16 (v := (zDg (aCount a) 1619 i) * (31)) rfl ?_
      refine z_aload_n C dX2_digest_17 0 rfl ?_
      refine z_iload_n C dX2_digest_18 2 rfl ?_
      refine z_callV C (c_X2_count l g q a bs wb pd gw ha hs i (by omega)) (cwV 1 C.ts gX2_digest_X2_count rfl rfl rfl (by decide +kernel) ⟨Nat.le_of_ble_eq_true rfl, Nat.le_of_ble_eq_true rfl⟩) wB_o rfl rfl rfl (Nat.le_of_ble_eq_true rfl) dX2_digest_19 ⟨Nat.zero_le _, Nat.zero_le _⟩ (z_i ?_)
      refine z_i2l C dX2_digest_22 (v := (iZ (aCount a i)).toInt64) rfl ?_
      refine z_ladd C dX2_digest_23 (v := ((zDg (aCount a) 1619 i) * (31)) + ((iZ (aCount a i)).toInt64)) rfl ?_
      refine z_lstore_n C dX2_digest_24 (by decide) [(1, .long (((zDg (aCount a) 1619 i) * (31)) + ((iZ (aCount a i)).toInt64))), (0, .ref (q 0)), (3, .int (nI i))] rfl ?_
      refine z_iinc C dX2_digest_25 2 (nI (i + 1)) rfl (nI_add i 1) (by decide) [(3, .int (nI (i + 1))), (1, .long (((zDg (aCount a) 1619 i) * (31)) + ((iZ (aCount a i)).toInt64))), (0, .ref (q 0))] rfl ?_
      refine z_goto C 6 dX2_digest_28 (by decide) ?_
      refine zW.pick (lv' := [(0, .ref (q 0)), (1, .long (((zDg (aCount a) 1619 i) * (31)) + ((iZ (aCount a i)).toInt64))), (3, .int (nI (i + 1)))]) [2, 1, 0] rfl ?_
      refine zW.lve (lv' := [(0, .ref (q 0)), (1, .long (zDg (aCount a) 1619 (i + 1))), (3, .int (nI (i + 1)))]) (rfl) ?_
      exact ih6 (i + 1) (by omega)
  exact hlp6 (9) 0 (by omega)
theorem inX2_would_X0 : ∀ w ∈ wsX00, w ∈ wsX2_would := fun w h => List.mem_cons_of_mem _ (List.mem_append_left _ (List.mem_append_left _ (List.mem_append_right _ (h))))
theorem inX2_would_X1 : ∀ w ∈ wsX10, w ∈ wsX2_would := fun w h => List.mem_cons_of_mem _ (List.mem_append_left _ (List.mem_append_left _ (List.mem_append_left _ (List.mem_append_right _ (h)))))
theorem inX2_would_X2 : ∀ w ∈ wsX20, w ∈ wsX2_would := fun w h => List.mem_cons_of_mem _ (List.mem_append_left _ (List.mem_append_left _ (List.mem_append_left _ (List.mem_append_left _ (List.mem_append_right _ (h))))))
set_option maxRecDepth 100000 in
set_option maxHeartbeats 4000000 in
theorem c_X2_would (l : Launch) (g : zG) (q : Nat → Nat) (a : zS) (bs : Nat → Int × Nat) (wb pd gw : Nat → Nat → Int) (ha : zInv a) (hs : zSet a bs wb pd gw 0 0) (b x w : Nat) (hb : b < zNb a) (hx : x ≤ 999) (hw : w ≤ 3) : zM g l yX2_would wsX2_would { frames := 30, cells := 0, slots := 0, locals := 798 } [.ref (q 0), .int (nI b), .int (nI x), .int (nI w)] (wB g q a (zG0 a) bs wb pd gw) (zPie (iZ (aWould a b x w)) (zFace g q a)) 0 0 := by
  refine zM.of (cc := cX2_would) (nL := 5) (ret := (some .int)) (lv := [(0, .ref (q 0)), (1, .int (nI b)), (2, .int (nI x)), (3, .int (nI w))]) (by decide) rfl (Nat.le_of_ble_eq_true rfl) rfl ?_
  intro E C0 hi
  have C : zC g E cX2_would RX2 wsX2_would 5 (some .int) := C0
  have hi9 := ha
  have ha := hi9.1
  obtain ⟨hnf, hnd, hnb, hou, hrs, hbd⟩ := id ha
  have h1 := zInv_setPr (b := b) hi9 hx
  have how := ha.ow hb
  refine z_aload_n C dX2_would_0 0 rfl ?_
  refine z_iload_n C dX2_would_1 1 rfl ?_
  refine z_callV C (c_X2_requireBid l g q a bs wb pd gw ha b (by omega)) (cwV 1 C.ts gX2_would_X2_requireBid rfl rfl rfl (by decide +kernel) ⟨Nat.le_of_ble_eq_true rfl, Nat.le_of_ble_eq_true rfl⟩) wB_o rfl rfl rfl (Nat.le_of_ble_eq_true rfl) dX2_would_2 ⟨Nat.zero_le _, Nat.zero_le _⟩ (z_v ?_)
  refine z_iload_n C dX2_would_5 3 rfl ?_
  refine z_iconst C (nI 3) dX2_would_6 (by decide) ?_
  refine z_callS C (c_X2_requireWhat l g (wB g q a (zG0 a) bs wb pd gw) w 3 (by omega) (by omega)) (va_cwS 2 C.ts gX2_would_X2_requireWhat rfl rfl rfl (by decide +kernel) ⟨Nat.le_of_ble_eq_true rfl, Nat.le_of_ble_eq_true rfl⟩) rfl rfl (Nat.le_of_ble_eq_true rfl) dX2_would_7 ⟨Nat.zero_le _, Nat.zero_le _⟩ (z_v ?_)
  refine z_iload_n C dX2_would_10 2 rfl ?_
  refine z_callS C (c_X2_requireAmount l g (wB g q a (zG0 a) bs wb pd gw) x (by omega)) (va_cwS 1 C.ts gX2_would_X2_requireAmount rfl rfl rfl (by decide +kernel) ⟨Nat.le_of_ble_eq_true rfl, Nat.le_of_ble_eq_true rfl⟩) rfl rfl (Nat.le_of_ble_eq_true rfl) dX2_would_11 ⟨Nat.zero_le _, Nat.zero_le _⟩ (z_v ?_)
  refine z_aload_n C dX2_would_14 0 rfl ?_
  refine z_get C inX2_would_X2 0 wB_o rfl 6 (by decide) (C.w 1 rfl) rfl dX2_would_15 ?_
  refine z_iload_n C dX2_would_18 1 rfl ?_
  refine z_ialdN C 5 wB_pr (by omega) (by decide) dX2_would_19 (v := nI (zPr a b)) rfl ?_
  have f_19b := (ha.pr (b := b) (by omega))
  refine z_istore C dX2_would_20 (by decide) [(4, .int (nI (zPr a b))), (0, .ref (q 0)), (1, .int (nI b)), (2, .int (nI x)), (3, .int (nI w))] rfl ?_
  refine z_aload_n C dX2_would_22 1 rfl ?_
  refine z_iload_n C dX2_would_23 2 rfl ?_
  refine z_iload_n C dX2_would_24 3 rfl ?_
  refine z_callV C (c_X2_putPrice l g q a bs wb pd gw (zG0 a) ha b x (by omega) h1.1) (cwV 2 C.ts gX2_would_X2_putPrice rfl rfl rfl (by decide +kernel) ⟨Nat.le_of_ble_eq_true rfl, Nat.le_of_ble_eq_true rfl⟩) wB_o rfl rfl rfl (Nat.le_of_ble_eq_true rfl) dX2_would_25 ⟨Nat.zero_le _, Nat.zero_le _⟩ (z_v ?_)
  rw [zG0_setPr _ (by omega)]
  refine z_aload_n C dX2_would_28 1 rfl ?_
  refine z_aload_n C dX2_would_29 1 rfl ?_
  refine z_get C inX2_would_X2 0 wB_o rfl 12 (by decide) (C.w 2 rfl) rfl dX2_would_30 ?_
  refine z_iconst C (nI 0) dX2_would_33 (by decide) ?_
  refine z_callV C (c_X2_settle l g q (zSetPr a b x) bs wb pd gw 1 h1.1 (by decide) 0) (cwV 2 C.ts gX2_would_X2_settle rfl rfl rfl (by decide +kernel) ⟨Nat.le_of_ble_eq_true rfl, Nat.le_of_ble_eq_true rfl⟩) wB_o rfl rfl rfl (Nat.le_of_ble_eq_true rfl) dX2_would_34 ⟨Nat.zero_le _, Nat.zero_le _⟩ (z_e ?_)
  rintro _ ⟨bs2, wb2, pd2, gw2, rfl, hs2, hk2⟩
  refine z_aload_n C dX2_would_37 1 rfl ?_
  refine z_iload_n C dX2_would_38 2 rfl ?_
  refine z_iload C dX2_would_39 0 rfl ?_
  refine z_callV C (c_X2_putPrice l g q (zSetPr a b x) bs2 wb2 pd2 gw2 (zG0 (zSetPr a b x)) h1.1 b (zPr a b) (by omega) (by rw [zSetPr_back]; exact ha)) (cwV 2 C.ts gX2_would_X2_putPrice rfl rfl rfl (by decide +kernel) ⟨Nat.le_of_ble_eq_true rfl, Nat.le_of_ble_eq_true rfl⟩) wB_o rfl rfl rfl (Nat.le_of_ble_eq_true rfl) dX2_would_41 ⟨Nat.zero_le _, Nat.zero_le _⟩ (z_v ?_)
  rw [zG0_setPr _ (show b < zNb (zSetPr a b x) from hb)]
  rw [zSetPr_back]
  refine z_iload_n C dX2_would_44 4 rfl ?_
  rcases (show w = 0 ∨ w = 1 ∨ w = 2 ∨ w = 3 by omega) with rfl | rfl | rfl | rfl
  · skip
    refine z_tabIn C 72 dX2_would_45 (by decide) (by decide) (off := 27) (by decide) (by decide) ?_
    refine z_aload_n C dX2_would_72 1 rfl ?_
    refine z_get C inX2_would_X2 0 wB_o rfl 12 (by decide) (C.w 2 rfl) rfl dX2_would_73 ?_
    refine z_getN C inX2_would_X1 (12 + 1) (wB_sl (z := 1) (by decide)) rfl 0 (by decide) 0 rfl rfl dX2_would_76 ?_
    refine z_iload_n C dX2_would_79 2 rfl ?_
    refine z_callVN C (c_X0_has l g q a bs2 wb2 pd2 gw2 1 (by decide) b (by omega)) ⟨va_cnB 1 C.ts ggX2_would_X0_has rfl rfl rfl (C.K.2.1 _ (List.mem_of_getElem? (i := 6) rfl)) (C.w 50 rfl) (by decide +kernel) ⟨Nat.le_of_ble_eq_true rfl, Nat.le_of_ble_eq_true rfl⟩, (C.w 91 rfl), (C.w 92 rfl)⟩ (wB_bs (z := 1) (by decide)) rfl rfl rfl (Nat.le_of_ble_eq_true rfl) dX2_would_80 ⟨Nat.zero_le _, Nat.zero_le _⟩ (z_i ?_)
    refine z_callS C (c_X2_asNumber l g (wB g q a (zG0 a) bs2 wb2 pd2 gw2) ((bs2 1).2.testBit b)) (va_cwS 1 C.ts gX2_would_X2_asNumber rfl rfl rfl (by decide +kernel) ⟨Nat.le_of_ble_eq_true rfl, Nat.le_of_ble_eq_true rfl⟩) rfl rfl (Nat.le_of_ble_eq_true rfl) dX2_would_83 ⟨Nat.zero_le _, Nat.zero_le _⟩ (z_i ?_)
    exact z_iretE C dX2_would_86 (by rw [hs2.1]; exact bI_Z _) ⟨_, _, _, _, rfl, zSet_keep hs hk2⟩
  · skip
    refine z_tabIn C 87 dX2_would_45 (by decide) (by decide) (off := 42) (by decide) (by decide) ?_
    refine z_aload_n C dX2_would_87 1 rfl ?_
    refine z_get C inX2_would_X2 0 wB_o rfl 12 (by decide) (C.w 2 rfl) rfl dX2_would_88 ?_
    refine z_getN C inX2_would_X1 (12 + 1) (wB_sl (z := 1) (by decide)) rfl 2 (by decide) 2 rfl rfl dX2_would_91 ?_
    refine z_aload_n C dX2_would_94 1 rfl ?_
    refine z_get C inX2_would_X2 0 wB_o rfl 4 (by decide) (C.w 3 rfl) rfl dX2_would_95 ?_
    refine z_iload_n C dX2_would_98 2 rfl ?_
    refine z_ialdN C 3 wB_ow (by omega) (by decide) dX2_would_99 (v := nI (zOw a b)) rfl ?_
    have f_99b := (ha.ow (b := b) (by omega))
    refine z_ialdN C (16 + 1) (wB_pd (z := 1) (by decide)) (by omega) (by decide) dX2_would_100 (v := iZ (pd2 1 (zOw a b))) rfl ?_
    exact z_iretE C dX2_would_101 (by rw [hs2.pd (by omega)]; rfl) ⟨_, _, _, _, rfl, zSet_keep hs hk2⟩
  · skip
    refine z_tabIn C 102 dX2_would_45 (by decide) (by decide) (off := 57) (by decide) (by decide) ?_
    refine z_aload_n C dX2_would_102 1 rfl ?_
    refine z_aload_n C dX2_would_103 1 rfl ?_
    refine z_get C inX2_would_X2 0 wB_o rfl 12 (by decide) (C.w 2 rfl) rfl dX2_would_104 ?_
    refine z_aload_n C dX2_would_107 1 rfl ?_
    refine z_get C inX2_would_X2 0 wB_o rfl 4 (by decide) (C.w 3 rfl) rfl dX2_would_108 ?_
    refine z_iload_n C dX2_would_111 2 rfl ?_
    refine z_ialdN C 3 wB_ow (by omega) (by decide) dX2_would_112 (v := nI (zOw a b)) rfl ?_
    have f_112b := (ha.ow (b := b) (by omega))
    refine z_callV C (c_X2_profit l g q a bs2 wb2 pd2 gw2 1 ha (by decide) (zOw a b) (by omega) (hs2.wor _ (by omega))) (cwV 2 C.ts gX2_would_X2_profit rfl rfl rfl (by decide +kernel) ⟨Nat.le_of_ble_eq_true rfl, Nat.le_of_ble_eq_true rfl⟩) wB_o rfl rfl rfl (Nat.le_of_ble_eq_true rfl) dX2_would_113 ⟨Nat.zero_le _, Nat.zero_le _⟩ (z_i ?_)
    exact z_iretE C dX2_would_116 (by rw [hs2.wb (by omega), hs2.pd (by omega)]; rfl) ⟨_, _, _, _, rfl, zSet_keep hs hk2⟩
  · skip
    refine z_tabOut C 117 dX2_would_45 (by decide) (by decide) ?_
    refine z_aload_n C dX2_would_117 1 rfl ?_
    refine z_get C inX2_would_X2 0 wB_o rfl 12 (by decide) (C.w 2 rfl) rfl dX2_would_118 ?_
    refine z_getN C inX2_would_X1 (12 + 1) (wB_sl (z := 1) (by decide)) rfl 0 (by decide) 0 rfl rfl dX2_would_121 ?_
    refine z_getN C inX2_would_X0 (9 + 1) (wB_bs (z := 1) (by decide)) rfl 0 (by decide) 4 rfl rfl dX2_would_124 ?_
    exact z_iretE C dX2_would_127 (by rw [hs2.1]; rfl) ⟨_, _, _, _, rfl, zSet_keep hs hk2⟩
theorem inX2_least_X2 : ∀ w ∈ wsX20, w ∈ wsX2_least := fun w h => List.mem_cons_of_mem _ (List.mem_append_left _ (List.mem_append_left _ (List.mem_append_right _ (h))))
set_option maxRecDepth 100000 in
set_option maxHeartbeats 4000000 in
theorem c_X2_least (l : Launch) (g : zG) (q : Nat → Nat) (a : zS) (bs : Nat → Int × Nat) (wb pd gw : Nat → Nat → Int) (ha : zInv a) (hs : zSet a bs wb pd gw 0 0) (b : Nat) (hb : b < zNb a) : zM g l yX2_least wsX2_least { frames := 30, cells := 0, slots := 0, locals := 797 } [.ref (q 0), .int (nI b)] (wB g q a (zG0 a) bs wb pd gw) (zPie (iZ (aLeast a b)) (zFace g q a)) 0 0 := by
  refine zM.of (cc := cX2_least) (nL := 6) (ret := (some .int)) (lv := [(0, .ref (q 0)), (1, .int (nI b))]) (by decide) rfl (Nat.le_of_ble_eq_true rfl) rfl ?_
  intro E C0 hi
  have C : zC g E cX2_least RX2 wsX2_least 6 (some .int) := C0
  have hi9 := ha
  have ha := hi9.1
  obtain ⟨hnf, hnd, hnb, hou, hrs, hbd⟩ := id ha
  have hall : ∀ x, x ≤ 999 → zOk (zSetPr a b x) := fun x hx => (zInv_setPr (b := b) hi9 hx).1
  refine z_aload_n C dX2_least_0 0 rfl ?_
  refine z_iload_n C dX2_least_1 1 rfl ?_
  refine z_callV C (c_X2_requireBid l g q a bs wb pd gw ha b (by omega)) (cwV 1 C.ts gX2_least_X2_requireBid rfl rfl rfl (by decide +kernel) ⟨Nat.le_of_ble_eq_true rfl, Nat.le_of_ble_eq_true rfl⟩) wB_o rfl rfl rfl (Nat.le_of_ble_eq_true rfl) dX2_least_2 ⟨Nat.zero_le _, Nat.zero_le _⟩ (z_v ?_)
  refine z_aload_n C dX2_least_5 0 rfl ?_
  refine z_get C inX2_least_X2 0 wB_o rfl 6 (by decide) (C.w 1 rfl) rfl dX2_least_6 ?_
  refine z_iload_n C dX2_least_9 1 rfl ?_
  refine z_ialdN C 5 wB_pr (by omega) (by decide) dX2_least_10 (v := nI (zPr a b)) rfl ?_
  have f_10b := (ha.pr (b := b) (by omega))
  refine z_istore_n C dX2_least_11 (by decide) [(2, .int (nI (zPr a b))), (0, .ref (q 0)), (1, .int (nI b))] rfl ?_
  refine z_iconst C (iZ (-1)) dX2_least_12 (by decide) ?_
  refine z_istore_n C dX2_least_13 (by decide) [(3, .int (iZ (-1))), (2, .int (nI (zPr a b))), (0, .ref (q 0)), (1, .int (nI b))] rfl ?_
  refine z_sipush C (nI 512) dX2_least_14 (by decide) ?_
  refine z_istore C dX2_least_17 (by decide) [(4, .int (nI 512)), (3, .int (iZ (-1))), (2, .int (nI (zPr a b))), (0, .ref (q 0)), (1, .int (nI b))] rfl ?_
  rw [show wB g q a (zG0 a) bs wb pd gw = wB g q (zSetPr a b (zPr a b)) (zG0 (zSetPr a b (zPr a b))) bs wb pd gw by rw [zSetPr_id]]
  refine zW.pick (lv' := [(0, .ref (q 0)), (1, .int (nI b)), (2, .int (nI (zPr a b))), (3, .int (iZ (-1))), (4, .int (nI 512))]) [3, 4, 2, 1, 0] rfl ?_
  have hlp19 : ∀ (k i : Nat) (h : Int) (p : Nat) (bs1 : Nat → Int × Nat), i + k = 10 → (-1 ≤ h ∧ h ≤ 999) → (p ≤ 999) → (zSet a bs1 wb pd gw 0 0) → (zLs a b k h = zLs a b 10 (-1)) → zW g l ({ frames := 30, cells := 0, slots := 0, locals := 797 }) E (zMQ g E (zPie (iZ (aLeast a b)) (zFace g q a)) 0 0) 6 0 0 (wB g q (zSetPr a b p) (zG0 (zSetPr a b p)) bs1 wb pd gw) [(0, .ref (q 0)), (1, .int (nI b)), (2, .int (nI (zPr a b))), (3, .int (iZ h)), (4, .int (nI (2 ^ k / 2)))] [] 19 := by
    intro k
    induction k with
    | zero =>
      intro i h p bs1 hik hh hp hs1 hr
      refine z_iload C dX2_least_19 4 rfl ?_
      refine z_if_le C 60 dX2_least_21 (by decide) (zle_N0 (by omega)) (fun c_21 => ?_) (fun h9 => absurd (by decide) h9)
      refine z_aload_n C dX2_least_60 0 rfl ?_
      refine z_iload_n C dX2_least_61 1 rfl ?_
      refine z_iload_n C dX2_least_62 2 rfl ?_
      refine z_callV C (c_X2_putPrice l g q (zSetPr a b p) bs1 wb pd gw (zG0 (zSetPr a b p)) (hall _ hp) b (zPr a b) (by omega) (by rw [zSetPr_2, zSetPr_id]; exact ha)) (cwV 2 C.ts gX2_least_X2_putPrice rfl rfl rfl (by decide +kernel) ⟨Nat.le_of_ble_eq_true rfl, Nat.le_of_ble_eq_true rfl⟩) wB_o rfl rfl rfl (Nat.le_of_ble_eq_true rfl) dX2_least_63 ⟨Nat.zero_le _, Nat.zero_le _⟩ (z_v ?_)
      rw [zG0_setPr _ (show b < zNb (zSetPr a b p) from hb)]
      rw [zSetPr_2, zSetPr_id]
      refine z_iload_n C dX2_least_66 3 rfl ?_
      refine z_sipush C (nI 999) dX2_least_67 (by decide) ?_
      refine z_icmp_ge C 79 dX2_least_70 (by decide) (zle_ZZ (x := 999) (y := h) (by unfold zB31; omega) (by unfold zB31; omega)) (fun c_70 => ?_) (fun c_70 => ?_)
      · skip
        refine z_iconst C (iZ (-1)) dX2_least_79 (by decide) ?_
        exact z_iretE C dX2_least_80 (by have hr9 : h = zLs a b 10 (-1) := hr; unfold aLeast; rw [← hr9]; first | (rw [if_pos (by omega)]; done) | (rw [if_pos (by omega)]; rfl) | (rw [if_neg (by omega)]; done) | (rw [if_neg (by omega)]; rfl)) ⟨_, _, _, _, rfl, hs1⟩
      · skip
        refine z_iload_n C dX2_least_73 3 rfl ?_
        refine z_iconst C (nI 1) dX2_least_74 (by decide) ?_
        refine z_iadd C dX2_least_75 (v := iZ (h + 1)) (iZ_add h 1) ?_
        refine z_goto C 80 dX2_least_76 (by decide) ?_
        exact z_iretE C dX2_least_80 (by have hr9 : h = zLs a b 10 (-1) := hr; unfold aLeast; rw [← hr9]; first | (rw [if_pos (by omega)]; done) | (rw [if_pos (by omega)]; rfl) | (rw [if_neg (by omega)]; done) | (rw [if_neg (by omega)]; rfl)) ⟨_, _, _, _, rfl, hs1⟩
    | succ k ih19 =>
      intro i h p bs1 hik hh hp hs1 hr
      have e2 : 2 ^ (k + 1) / 2 = 2 ^ k := by rw [Nat.pow_succ]; omega
      have hk9 : 2 ^ k ≤ 2 ^ 9 := zp2_le (by omega)
      have hk0 := Nat.two_pow_pos k
      refine z_iload C dX2_least_19 4 rfl ?_
      rw [e2]
      refine z_if_le C 60 dX2_least_21 (by decide) (zle_N0 (by omega)) (fun h9 => absurd h9 (by have := Nat.two_pow_pos k; omega)) (fun c_21 => ?_)
      refine z_iload_n C dX2_least_24 3 rfl ?_
      refine z_iload C dX2_least_25 4 rfl ?_
      refine z_iadd C dX2_least_27 (v := iZ (h + ((2 ^ k : Nat) : Int))) (iZ_add h ((2 ^ k : Nat) : Int)) ?_
      refine z_istore C dX2_least_28 (by decide) [(5, .int (iZ (h + ((2 ^ k : Nat) : Int)))), (0, .ref (q 0)), (1, .int (nI b)), (2, .int (nI (zPr a b))), (3, .int (iZ h)), (4, .int (nI (2 ^ k)))] rfl ?_
      refine z_iload C dX2_least_30 0 rfl ?_
      refine z_sipush C (nI 999) dX2_least_32 (by decide) ?_
      refine z_icmp_gt C 51 dX2_least_35 (by decide) (zlt_ZZ (x := 999) (y := (h + ((2 ^ k : Nat) : Int))) (by unfold zB31; omega) (by unfold zB31; omega)) (fun c_35 => ?_) (fun c_35 => ?_)
      · skip
        refine z_iload C dX2_least_51 5 rfl ?_
        refine z_iconst C (nI 2) dX2_least_53 (by decide) ?_
        refine z_idiv C dX2_least_54 (by decide) (v := nI (2 ^ k / 2)) (pk_div (by omega) (by decide) (by decide)) ?_
        refine z_istore C dX2_least_55 (by decide) [(4, .int (nI (2 ^ k / 2))), (5, .int (iZ (h + ((2 ^ k : Nat) : Int)))), (0, .ref (q 0)), (1, .int (nI b)), (2, .int (nI (zPr a b))), (3, .int (iZ h))] rfl ?_
        refine z_goto C 19 dX2_least_57 (by decide) ?_
        refine zW.pick (lv' := [(0, .ref (q 0)), (1, .int (nI b)), (2, .int (nI (zPr a b))), (3, .int (iZ h)), (4, .int (nI (2 ^ k / 2)))]) [2, 3, 4, 5, 0] rfl ?_
        exact ih19 (i + 1) h p bs1 (by omega) hh hp hs1 (by rw [← hr, zLs_s, if_neg (by omega)])
      · skip
        refine z_aload_n C dX2_least_38 1 rfl ?_
        refine z_iload_n C dX2_least_39 2 rfl ?_
        refine z_iload C dX2_least_40 0 rfl ?_
        obtain ⟨x, hxe⟩ : ∃ x : Nat, h + ((2 ^ k : Nat) : Int) = (x : Int) := ⟨(h + ((2 ^ k : Nat) : Int)).toNat, by omega⟩
        have hx9 : x ≤ 999 := by omega
        refine zW.top (y := nI x) (by rw [hxe]; rfl) ?_
        refine z_callV C (c_X2_winsWith l g q (zSetPr a b p) bs1 wb pd gw (hall _ hp) b x hb (by rw [zSetPr_2]; exact hall _ hx9)) (cwV 2 C.ts gX2_least_X2_winsWith rfl rfl rfl (by decide +kernel) ⟨Nat.le_of_ble_eq_true rfl, Nat.le_of_ble_eq_true rfl⟩) wB_o rfl rfl rfl (Nat.le_of_ble_eq_true rfl) dX2_least_42 ⟨Nat.zero_le _, Nat.zero_le _⟩ (z_i ?_)
        rw [zSetPr_2]
        refine z_if_ne C 51 dX2_least_45 (by decide) (zeq_B0 _) (fun c_45 => ?_) (fun c_45 => ?_)
        · skip
          refine z_iload C dX2_least_51 5 rfl ?_
          refine z_iconst C (nI 2) dX2_least_53 (by decide) ?_
          refine z_idiv C dX2_least_54 (by decide) (v := nI (2 ^ k / 2)) (pk_div (by omega) (by decide) (by decide)) ?_
          refine z_istore C dX2_least_55 (by decide) [(4, .int (nI (2 ^ k / 2))), (5, .int (iZ (h + ((2 ^ k : Nat) : Int)))), (0, .ref (q 0)), (1, .int (nI b)), (2, .int (nI (zPr a b))), (3, .int (iZ h))] rfl ?_
          refine z_goto C 19 dX2_least_57 (by decide) ?_
          refine zW.pick (lv' := [(0, .ref (q 0)), (1, .int (nI b)), (2, .int (nI (zPr a b))), (3, .int (iZ h)), (4, .int (nI (2 ^ k / 2)))]) [2, 3, 4, 5, 0] rfl ?_
          exact ih19 (i + 1) h x (va_up bs1 2 (zFw (zSetPr a b x) 0)) (by omega) hh hx9 (by unfold zSet; rw [va_up_ne _ _ (by decide)]; exact hs1) (by rw [← hr, zLs_s, if_neg (by rw [hxe]; intro h9; have h8 := h9.2; simp [aWins] at h8; simp_all)])
        · skip
          refine z_iload C dX2_least_48 0 rfl ?_
          refine z_istore_n C dX2_least_50 (by decide) [(3, .int (iZ (h + ((2 ^ k : Nat) : Int)))), (5, .int (iZ (h + ((2 ^ k : Nat) : Int)))), (0, .ref (q 0)), (1, .int (nI b)), (2, .int (nI (zPr a b))), (4, .int (nI (2 ^ k)))] rfl ?_
          refine z_iload C dX2_least_51 5 rfl ?_
          refine z_iconst C (nI 2) dX2_least_53 (by decide) ?_
          refine z_idiv C dX2_least_54 (by decide) (v := nI (2 ^ k / 2)) (pk_div (by omega) (by decide) (by decide)) ?_
          refine z_istore C dX2_least_55 (by decide) [(4, .int (nI (2 ^ k / 2))), (3, .int (iZ (h + ((2 ^ k : Nat) : Int)))), (5, .int (iZ (h + ((2 ^ k : Nat) : Int)))), (0, .ref (q 0)), (1, .int (nI b)), (2, .int (nI (zPr a b)))] rfl ?_
          refine z_goto C 19 dX2_least_57 (by decide) ?_
          refine zW.pick (lv' := [(0, .ref (q 0)), (1, .int (nI b)), (2, .int (nI (zPr a b))), (3, .int (iZ (h + ((2 ^ k : Nat) : Int)))), (4, .int (nI (2 ^ k / 2)))]) [3, 4, 5, 1, 0] rfl ?_
          exact ih19 (i + 1) (h + ((2 ^ k : Nat) : Int)) x (va_up bs1 2 (zFw (zSetPr a b x) 0)) (by omega) (by omega) hx9 (by unfold zSet; rw [va_up_ne _ _ (by decide)]; exact hs1) (by rw [← hr, zLs_s, if_pos ⟨by omega, by rw [hxe]; simpa [aWins] using c_45⟩])
  exact hlp19 (10) 0 (-1) (zPr a b) bs (by omega) (⟨by decide, by decide⟩) (ha.pr hb) hs rfl
theorem inX2_rival_X2 : ∀ w ∈ wsX20, w ∈ wsX2_rival := fun w h => List.mem_cons_of_mem _ (List.mem_append_left _ (List.mem_append_left _ (List.mem_append_right _ (h))))
set_option maxRecDepth 100000 in
set_option maxHeartbeats 4000000 in
theorem c_X2_rival (l : Launch) (g : zG) (q : Nat → Nat) (a : zS) (bs : Nat → Int × Nat) (wb pd gw : Nat → Nat → Int) (ha : zInv a) (hs : zSet a bs wb pd gw 0 0)  : zM g l yX2_rival wsX2_rival { frames := 30, cells := 0, slots := 0, locals := 798 } [.ref (q 0)] (wB g q a (zG0 a) bs wb pd gw) (zPie (iZ ((zRv a (zNd a)).1)) (zFace g q a)) 0 0 := by
  refine zM.of (cc := cX2_rival) (nL := 5) (ret := (some .int)) (lv := [(0, .ref (q 0))]) (by decide) rfl (Nat.le_of_ble_eq_true rfl) rfl ?_
  intro E C0 hi
  have C : zC g E cX2_rival RX2 wsX2_rival 5 (some .int) := C0
  have hi9 := ha
  have ha := hi9.1
  obtain ⟨hnf, hnd, hnb, hou, hrs, hbd⟩ := id ha
  refine z_iconst C (iZ (-1)) dX2_rival_0 (by decide) ?_
  refine z_istore_n C dX2_rival_1 (by decide) [(1, .int (iZ (-1))), (0, .ref (q 0))] rfl ?_
  refine z_iconst C (iZ (-1)) dX2_rival_2 (by decide) ?_
  refine z_istore_n C dX2_rival_3 (by decide) [(2, .int (iZ (-1))), (1, .int (iZ (-1))), (0, .ref (q 0))] rfl ?_
  refine z_iconst C (nI 0) dX2_rival_4 (by decide) ?_
  refine z_istore_n C dX2_rival_5 (by decide) [(3, .int (nI 0)), (2, .int (iZ (-1))), (1, .int (iZ (-1))), (0, .ref (q 0))] rfl ?_
  refine zW.pick (lv' := [(0, .ref (q 0)), (1, .int (iZ (-1))), (2, .int (iZ (-1))), (3, .int (nI 0))]) [3, 2, 1, 0] rfl ?_
  have hlp6 : ∀ (k d : Nat) (bs1 : Nat → Int × Nat) (wb1 : Nat → Nat → Int) (pd1 : Nat → Nat → Int) (gw1 : Nat → Nat → Int), d + k = zNd a → (zSet a bs1 wb1 pd1 gw1 0 0) → zW g l ({ frames := 30, cells := 0, slots := 0, locals := 798 }) E (zMQ g E (zPie (iZ ((zRv a (zNd a)).1)) (zFace g q a)) 0 0) 5 0 0 (wB g q a (zG0 a) bs1 wb1 pd1 gw1) [(0, .ref (q 0)), (1, .int (iZ ((zRv a d).1))), (2, .int (iZ ((zRv a d).2))), (3, .int (nI d))] [] 6 := by
    intro k
    induction k with
    | zero =>
      intro d bs1 wb1 pd1 gw1 hdk hs1
      refine z_iload_n C dX2_rival_6 3 rfl ?_
      refine z_aload_n C dX2_rival_7 0 rfl ?_
      refine z_get C inX2_rival_X2 0 wB_o rfl 3 (by decide) (C.w 1 rfl) rfl dX2_rival_8 ?_
      refine z_icmp_ge C 51 dX2_rival_11 (by decide) (zle_NN (by omega) (by omega)) (fun c_11 => ?_) (fun h9 => absurd (by omega) h9)
      refine z_iload_n C dX2_rival_51 1 rfl ?_
      exact z_iretE C dX2_rival_52 (by rw [show d = zNd a by omega]) ⟨_, _, _, _, rfl, hs1⟩
    | succ k ih6 =>
      intro d bs1 wb1 pd1 gw1 hdk hs1
      refine z_iload_n C dX2_rival_6 3 rfl ?_
      refine z_aload_n C dX2_rival_7 0 rfl ?_
      refine z_get C inX2_rival_X2 0 wB_o rfl 3 (by decide) (C.w 1 rfl) rfl dX2_rival_8 ?_
      refine z_icmp_ge C 51 dX2_rival_11 (by decide) (zle_NN (by omega) (by omega)) (fun h9 => absurd h9 (by omega)) (fun c_11 => ?_)
      refine z_aload_n C dX2_rival_14 0 rfl ?_
      refine z_aload_n C dX2_rival_15 0 rfl ?_
      refine z_get C inX2_rival_X2 0 wB_o rfl 12 (by decide) (C.w 2 rfl) rfl dX2_rival_16 ?_
      refine z_iconst C (nI 1) dX2_rival_19 (by decide) ?_
      refine z_iload_n C dX2_rival_20 3 rfl ?_
      refine z_ishl C dX2_rival_21 (v := nI (2 ^ d)) (zshl_1N (by omega)) ?_
      refine z_callV C (c_X2_settle l g q a bs1 wb1 pd1 gw1 1 ha (by decide) (2 ^ d)) (cwV 2 C.ts gX2_rival_X2_settle rfl rfl rfl (by decide +kernel) ⟨Nat.le_of_ble_eq_true rfl, Nat.le_of_ble_eq_true rfl⟩) wB_o rfl rfl rfl (Nat.le_of_ble_eq_true rfl) dX2_rival_22 ⟨Nat.zero_le _, Nat.zero_le _⟩ (z_e ?_)
      rintro _ ⟨bs2, wb2, pd2, gw2, rfl, hs2, hk2⟩
      refine z_aload_n C dX2_rival_25 0 rfl ?_
      refine z_get C inX2_rival_X2 0 wB_o rfl 12 (by decide) (C.w 2 rfl) rfl dX2_rival_26 ?_
      refine z_callVN C (c_X1_totalPaid l g q a bs2 wb2 pd2 gw2 1 (by decide)) ⟨va_cnB 0 C.ts ggX2_rival_X1_totalPaid rfl rfl rfl (C.K.2.1 _ (List.mem_of_getElem? (i := 7) rfl)) (C.w 11 rfl) (by decide +kernel) ⟨Nat.le_of_ble_eq_true rfl, Nat.le_of_ble_eq_true rfl⟩, (C.w 79 rfl), (C.w 80 rfl)⟩ (wB_sl (z := 1) (by decide)) rfl rfl rfl (Nat.le_of_ble_eq_true rfl) dX2_rival_29 ⟨Nat.zero_le _, Nat.zero_le _⟩ (z_i ?_)
      refine zW.top (y := iZ (aPs a d)) (congrArg iZ (zSi_cong 5 (fun e he => hs2.pd he))) ?_
      have bp := aPs_bnd ha d
      have br := zRv_bnd ha d
      refine z_istore C dX2_rival_32 (by decide) [(4, .int (iZ (aPs a d))), (0, .ref (q 0)), (1, .int (iZ ((zRv a d).1))), (2, .int (iZ ((zRv a d).2))), (3, .int (nI d))] rfl ?_
      refine z_iload C dX2_rival_34 0 rfl ?_
      refine z_iload_n C dX2_rival_36 3 rfl ?_
      refine z_icmp_le C 45 dX2_rival_37 (by decide) (zle_ZZ (x := (aPs a d)) (y := ((zRv a d).2)) (by unfold zB31; omega) (by unfold zB31; omega)) (fun c_37 => ?_) (fun c_37 => ?_)
      · skip
        refine z_iinc C dX2_rival_45 4 (nI (d + 1)) rfl (nI_add d 1) (by decide) [(3, .int (nI (d + 1))), (4, .int (iZ (aPs a d))), (0, .ref (q 0)), (1, .int (iZ ((zRv a d).1))), (2, .int (iZ ((zRv a d).2)))] rfl ?_
        refine z_goto C 6 dX2_rival_48 (by decide) ?_
        refine zW.pick (lv' := [(0, .ref (q 0)), (1, .int (iZ ((zRv a d).1))), (2, .int (iZ ((zRv a d).2))), (3, .int (nI (d + 1)))]) [2, 3, 4, 0] rfl ?_
        refine zW.lve (lv' := [(0, .ref (q 0)), (1, .int (iZ ((zRv a (d + 1)).1))), (2, .int (iZ ((zRv a (d + 1)).2))), (3, .int (nI (d + 1)))]) (by first | (simp_all [zRv, iZ_n]; done) | (simp_all only [zRv]; rw [if_neg (by omega)])) ?_
        exact ih6 (d + 1) bs2 wb2 pd2 gw2 (by omega) (zSet_keep hs1 hk2)
      · skip
        refine z_iload_n C dX2_rival_40 4 rfl ?_
        refine z_istore_n C dX2_rival_41 (by decide) [(1, .int (nI d)), (4, .int (iZ (aPs a d))), (0, .ref (q 0)), (2, .int (iZ ((zRv a d).2))), (3, .int (nI d))] rfl ?_
        refine z_iload C dX2_rival_42 1 rfl ?_
        refine z_istore_n C dX2_rival_44 (by decide) [(2, .int (iZ (aPs a d))), (1, .int (nI d)), (4, .int (iZ (aPs a d))), (0, .ref (q 0)), (3, .int (nI d))] rfl ?_
        refine z_iinc C dX2_rival_45 4 (nI (d + 1)) rfl (nI_add d 1) (by decide) [(3, .int (nI (d + 1))), (2, .int (iZ (aPs a d))), (1, .int (nI d)), (4, .int (iZ (aPs a d))), (0, .ref (q 0))] rfl ?_
        refine z_goto C 6 dX2_rival_48 (by decide) ?_
        refine zW.pick (lv' := [(0, .ref (q 0)), (1, .int (nI d)), (2, .int (iZ (aPs a d))), (3, .int (nI (d + 1)))]) [4, 2, 1, 0] rfl ?_
        refine zW.lve (lv' := [(0, .ref (q 0)), (1, .int (iZ ((zRv a (d + 1)).1))), (2, .int (iZ ((zRv a (d + 1)).2))), (3, .int (nI (d + 1)))]) (by first | (simp_all [zRv, iZ_n]; done) | (simp_all only [zRv]; rw [if_neg (by omega)])) ?_
        exact ih6 (d + 1) bs2 wb2 pd2 gw2 (by omega) (zSet_keep hs1 hk2)
  exact hlp6 (zNd a) 0 bs wb pd gw (by omega) hs
theorem inX2_mean_X0 : ∀ w ∈ wsX00, w ∈ wsX2_mean := fun w h => List.mem_cons_of_mem _ (List.mem_append_right _ (h))
theorem inX2_mean_X1 : ∀ w ∈ wsX10, w ∈ wsX2_mean := fun w h => List.mem_cons_of_mem _ (List.mem_append_left _ (List.mem_append_right _ (h)))
theorem inX2_mean_X2 : ∀ w ∈ wsX20, w ∈ wsX2_mean := fun w h => List.mem_cons_of_mem _ (List.mem_append_left _ (List.mem_append_left _ (List.mem_append_right _ (h))))
set_option maxRecDepth 100000 in
set_option maxHeartbeats 4000000 in
theorem c_X2_mean (l : Launch) (g : zG) (q : Nat → Nat) (a : zS) (bs : Nat → Int × Nat) (wb pd gw : Nat → Nat → Int) (ha : zOk a) (hs : zSet a bs wb pd gw 0 0)  : zM g l yX2_mean wsX2_mean { frames := 1, cells := 0, slots := 0, locals := 25 } [.ref (q 0)] (wB g q a (zG0 a) bs wb pd gw) (zPd (aMean a) (wB g q a (zG0 a) bs wb pd gw)) 0 0 := by
  refine zM.of (cc := cX2_mean) (nL := 2) (ret := (some .double)) (lv := [(0, .ref (q 0))]) (by decide) rfl (Nat.le_of_ble_eq_true rfl) rfl ?_
  intro E C0 hi
  have C : zC g E cX2_mean RX2 wsX2_mean 2 (some .double) := C0
  obtain ⟨hnf, hnd, hnb, hou, hrs, hbd⟩ := id ha
  have hxo := zFw_ok ha 0
  have hpl := zPop_le (bs 0).2 12
  refine z_aload_n C dX2_mean_0 0 rfl ?_
  refine z_get C inX2_mean_X2 0 wB_o rfl 11 (by decide) (C.w 1 rfl) rfl dX2_mean_1 ?_
  refine z_getN C inX2_mean_X1 (12 + 0) (wB_sl (z := 0) (by decide)) rfl 0 (by decide) 0 rfl rfl dX2_mean_4 ?_
  refine z_getN C inX2_mean_X0 (9 + 0) (wB_bs (z := 0) (by decide)) rfl 1 (by decide) 5 rfl rfl dX2_mean_7 ?_
  refine z_callS C (c_J6_bitCount_0f7a4 l g (wB g q a (zG0 a) bs wb pd gw) ((bs 0).2) (by rw [hs.1]; exact hxo.2.2)) (va_cwS 1 C.ts gX2_mean_J6_bitCount_0f7a4 rfl rfl rfl (by decide +kernel) ⟨Nat.le_of_ble_eq_true rfl, Nat.le_of_ble_eq_true rfl⟩) rfl rfl (Nat.le_of_ble_eq_true rfl) dX2_mean_10 ⟨Nat.zero_le _, Nat.zero_le _⟩ (z_i ?_)
  refine z_istore_n C dX2_mean_13 (by decide) [(1, .int (nI (zPop ((bs 0).2) 12))), (0, .ref (q 0))] rfl ?_
  refine z_iload_n C dX2_mean_14 0 rfl ?_
  refine z_if_ne C 20 dX2_mean_15 (by decide) (zeq_N0 (by omega)) (fun c_15 => ?_) (fun c_15 => ?_)
  · skip
    refine z_aload_n C dX2_mean_20 1 rfl ?_
    refine z_get C inX2_mean_X2 0 wB_o rfl 11 (by decide) (C.w 1 rfl) rfl dX2_mean_21 ?_
    refine z_callVN C (c_X1_totalPaid l g q a bs wb pd gw 0 (by decide)) ⟨va_cnB 0 C.ts ggX2_mean_X1_totalPaid rfl rfl rfl (C.K.2.1 _ (List.mem_of_getElem? (i := 7) rfl)) (C.w 10 rfl) (by decide +kernel) ⟨Nat.le_of_ble_eq_true rfl, Nat.le_of_ble_eq_true rfl⟩, (C.w 9 rfl), (C.w 11 rfl)⟩ (wB_sl (z := 0) (by decide)) rfl rfl rfl (Nat.le_of_ble_eq_true rfl) dX2_mean_24 ⟨Nat.zero_le _, Nat.zero_le _⟩ (z_i ?_)
    refine z_i2d C dX2_mean_27 ?_
    refine z_iload_n C dX2_mean_28 0 rfl ?_
    refine z_i2d C dX2_mean_29 ?_
    refine z_ddiv C dX2_mean_30 (zdiv_ok _ _ (fun h => c_15 ((zeq_N0 (by omega)).mp h))) ?_
    exact z_dretP C dX2_mean_31 (by unfold aMean; rw [← hs.1, if_neg c_15, zSi_cong 5 (fun d hd => hs.pd hd)]; rfl) rfl
  · skip
    refine z_dconst0 C dX2_mean_18 ?_
    exact z_dretP C dX2_mean_19 (by unfold aMean; rw [← hs.1, if_pos c_15]) rfl
