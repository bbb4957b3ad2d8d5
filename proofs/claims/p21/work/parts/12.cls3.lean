def zCons (x y : Int × Nat) : Int × Nat := if zBt x y = true then y else x
/-- a bid that counts, with no field and no bidder taken -/
def zFitb (a : zS) (i tf tb : Nat) : Bool := (tf &&& zBu a i == 0) && (!(tb.testBit (zOw a i)) && zCn a (zOu a) i)
/-- the search: the best of x and of all sets that add to m bids from i on, k bids -/
def zDfs (a : zS) : Nat → Int × Nat → Nat → Nat → Nat → Int → Nat → Int × Nat
  | 0, x, _, _, _, _, _ => x
  | k + 1, x, i, tf, tb, gi, m => zDfs a k (if zFitb a i tf tb = true then zDfs a k (zCons x (gi + zGn a i, m ||| 2 ^ i)) (i + 1) (tf ||| zBu a i) (tb ||| 2 ^ zOw a i) (gi + zGn a i) (m ||| 2 ^ i) else x) (i + 1) tf tb gi m
def zSw (a : zS) (k : Nat) (x : Int × Nat) (i tf tb : Nat) (gi : Int) (m : Nat) : Int × Nat := if zFitb a i tf tb = true then zDfs a k (zCons x (gi + zGn a i, m ||| 2 ^ i)) (i + 1) (tf ||| zBu a i) (tb ||| 2 ^ zOw a i) (gi + zGn a i) (m ||| 2 ^ i) else x
theorem zDfs_s (a : zS) (k : Nat) (x : Int × Nat) (i tf tb : Nat) (gi : Int) (m : Nat) : zDfs a (k + 1) x i tf tb gi m = zDfs a k (zSw a k x i tf tb gi m) (i + 1) tf tb gi m := rfl
def zXok (x : Int × Nat) : Prop := 0 ≤ x.1 ∧ x.1 ≤ 11988 ∧ x.2 < 4096
theorem zCons_ok {x y : Int × Nat} (hx : zXok x) (hy : zXok y) : zXok (zCons x y) := by
  unfold zCons
  split
  · exact hy
  · exact hx
theorem zor_lt {m i : Nat} (h : m < 2 ^ i) : m ||| 2 ^ i < 2 ^ (i + 1) := by
  apply Nat.or_lt_two_pow
  · rw [Nat.pow_succ]; omega
  · rw [Nat.pow_succ]; have : 0 < 2 ^ i := Nat.two_pow_pos i; omega
theorem zCn_ge {a : zS} {o b : Nat} (h : zCn a o b = true) : 0 ≤ zGn a b := by
  simp only [zCn, Bool.and_eq_true, decide_eq_true_eq] at h
  exact h.2.2
theorem zDfs_ok {a : zS} (ha : zOk a) : ∀ (k : Nat) (x : Int × Nat) (i tf tb : Nat) (gi : Int) (m : Nat), i + k = zNb a → zXok x → 0 ≤ gi → gi ≤ 999 * i → m < 2 ^ i → zXok (zDfs a k x i tf tb gi m) := by
  intro k
  induction k with
  | zero => intro x i tf tb gi m _ hx _ _ _; exact hx
  | succ k ih =>
    intro x i tf tb gi m hk hx h1 h2 h3
    have hnb := ha.2.2.1
    rw [zDfs_s]
    have h4 : m < 2 ^ (i + 1) := by rw [Nat.pow_succ]; omega
    refine ih _ _ _ _ _ _ (by omega) ?_ h1 (by omega) h4
    unfold zSw
    split
    · next hf =>
      simp only [zFitb, Bool.and_eq_true] at hf
      have g1 := zCn_ge hf.2.2
      have g2 := zGn_bnd ha (b := i) (by omega)
      have g3 := zor_lt h3
      have g4 : 2 ^ (i + 1) ≤ 2 ^ 12 := zp2_le (by omega)
      exact ih _ _ _ _ _ _ (by omega) (zCons_ok hx ⟨by show 0 ≤ gi + zGn a i; omega, by show gi + zGn a i ≤ 11988; omega, by show m ||| 2 ^ i < 4096; omega⟩) (by omega) (by omega) g3
    · exact hx
theorem zSw_ok {a : zS} (ha : zOk a) {k : Nat} {x : Int × Nat} {i tf tb : Nat} {gi : Int} {m : Nat} (hk : i + (k + 1) = zNb a) (hx : zXok x) (h1 : 0 ≤ gi) (h2 : gi ≤ 999 * i) (h3 : m < 2 ^ i) : zXok (zSw a k x i tf tb gi m) := by
  unfold zSw
  split
  · next hf =>
    simp only [zFitb, Bool.and_eq_true] at hf
    have hnb := ha.2.2.1
    have g1 := zCn_ge hf.2.2
    have g2 := zGn_bnd ha (b := i) (by omega)
    have g3 := zor_lt h3
    have g4 : 2 ^ (i + 1) ≤ 2 ^ 12 := zp2_le (by omega)
    exact zDfs_ok ha _ _ _ _ _ _ _ (by omega) (zCons_ok hx ⟨by show 0 ≤ gi + zGn a i; omega, by show gi + zGn a i ≤ 11988; omega, by show m ||| 2 ^ i < 4096; omega⟩) (by omega) (by omega) g3
  · exact hx
def zSkM (l : Launch) (g : zG) (q : Nat → Nat) (a : zS) (wb pd gw : Nat → Nat → Int) (k : Nat) : Prop := ∀ (bs : Nat → Int × Nat) (z : Nat) (hz : z < 3) (i tf tb m : Nat) (gi : Int) (hik : i + k = zNb a) (hx : zXok (bs z)) (hg : 0 ≤ gi ∧ gi ≤ 999 * i) (hm : m < 2 ^ i), zM g l yX2_seek wsX2_seek { frames := 2 * k + 3, cells := 0, slots := 0, locals := 55 * k + 66 } [.ref (q 0), .ref (q (9 + z)), .int (nI i), .int (nI tf), .int (nI tb), .int (iZ gi), .int (nI m)] (wB g q a (zG0 a) bs wb pd gw) (zPv (wB g q a (zG0 a) (va_up bs z (zDfs a k (zCons (bs z) (gi, m)) i tf tb gi m)) wb pd gw)) 0 0
def zSwM (l : Launch) (g : zG) (q : Nat → Nat) (a : zS) (wb pd gw : Nat → Nat → Int) (k : Nat) : Prop := ∀ (bs : Nat → Int × Nat) (z : Nat) (hz : z < 3) (i tf tb m : Nat) (gi : Int) (hik : i + (k + 1) = zNb a) (hx : zXok (bs z)) (hg : 0 ≤ gi ∧ gi ≤ 999 * i) (hm : m < 2 ^ i), zM g l yX2_seekWith wsX2_seekWith { frames := 2 * k + 4, cells := 0, slots := 0, locals := 55 * k + 93 } [.ref (q 0), .ref (q (9 + z)), .int (nI i), .int (nI tf), .int (nI tb), .int (iZ gi), .int (nI m)] (wB g q a (zG0 a) bs wb pd gw) (zPv (wB g q a (zG0 a) (va_up bs z (zSw a k (bs z) i tf tb gi m)) wb pd gw)) 0 0
theorem inX2_seekWith_X2 : ∀ w ∈ wsX20, w ∈ wsX2_seekWith := fun w h => List.mem_cons_of_mem _ (List.mem_append_left _ (List.mem_append_right _ (h)))
set_option maxRecDepth 100000 in
set_option maxHeartbeats 4000000 in
theorem c_X2_seekWith (l : Launch) (g : zG) (q : Nat → Nat) (a : zS) (bs : Nat → Int × Nat) (wb pd gw : Nat → Nat → Int) (z : Nat) (ha : zOk a) (hz : z < 3) (k i tf tb m : Nat) (gi : Int) (hik : i + (k + 1) = zNb a) (hx : zXok (bs z)) (hg : 0 ≤ gi ∧ gi ≤ 999 * i) (hm : m < 2 ^ i) (hS : zSkM l g q a wb pd gw k) : zM g l yX2_seekWith wsX2_seekWith { frames := 2 * k + 4, cells := 0, slots := 0, locals := 55 * k + 93 } [.ref (q 0), .ref (q (9 + z)), .int (nI i), .int (nI tf), .int (nI tb), .int (iZ gi), .int (nI m)] (wB g q a (zG0 a) bs wb pd gw) (zPv (wB g q a (zG0 a) (va_up bs z (zSw a k (bs z) i tf tb gi m)) wb pd gw)) 0 0 := by
  refine zM.of (cc := cX2_seekWith) (nL := 9) (ret := none) (lv := [(0, .ref (q 0)), (1, .ref (q (9 + z))), (2, .int (nI i)), (3, .int (nI tf)), (4, .int (nI tb)), (5, .int (iZ gi)), (6, .int (nI m))]) (by decide) rfl (Nat.le_of_ble_eq_true rfl) rfl ?_
  intro E C0 hi
  have C : zC g E cX2_seekWith RX2 wsX2_seekWith 9 none := C0
  obtain ⟨hnf, hnd, hnb, hou, hrs, hbd⟩ := id ha
  have hi12 : i < 12 := by omega
  refine z_iconst C (nI 1) dX2_seekWith_0 (by decide) ?_
  refine z_aload_n C dX2_seekWith_1 0 rfl ?_
  refine z_get C inX2_seekWith_X2 0 wB_o rfl 4 (by decide) (C.w 1 rfl) rfl dX2_seekWith_2 ?_
  refine z_iload_n C dX2_seekWith_5 2 rfl ?_
  refine z_ialdN C 3 wB_ow (by omega) (by decide) dX2_seekWith_6 (v := nI (zOw a i)) rfl ?_
  have f_6b := (ha.ow (b := i) (by omega))
  refine z_ishl C dX2_seekWith_7 (v := nI (2 ^ (zOw a i))) (zshl_1N (by omega)) ?_
  refine z_istore C dX2_seekWith_8 (by decide) [(7, .int (nI (2 ^ (zOw a i)))), (0, .ref (q 0)), (1, .ref (q (9 + z))), (2, .int (nI i)), (3, .int (nI tf)), (4, .int (nI tb)), (5, .int (iZ gi)), (6, .int (nI m))] rfl ?_
  refine z_iload_n C dX2_seekWith_10 4 rfl ?_
  refine z_aload_n C dX2_seekWith_11 1 rfl ?_
  refine z_get C inX2_seekWith_X2 0 wB_o rfl 5 (by decide) (C.w 2 rfl) rfl dX2_seekWith_12 ?_
  refine z_iload_n C dX2_seekWith_15 3 rfl ?_
  refine z_ialdN C 4 wB_bu (by omega) (by decide) dX2_seekWith_16 (v := nI (zBu a i)) rfl ?_
  have f_16b := (ha.bu8 (b := i) (by omega))
  refine z_iand C dX2_seekWith_17 (v := nI (tf &&& (zBu a i))) (zand_NN tf (zBu a i)) ?_
  refine z_if_ne C 29 dX2_seekWith_18 (by decide) (zeq_N0 (by have : tf &&& zBu a i ≤ zBu a i := Nat.and_le_right; have := ha.bu8 (b := i) (by omega); omega)) (fun c_18 => ?_) (fun c_18 => ?_)
  · skip
    refine z_iconst C (nI 1) dX2_seekWith_29 (by decide) ?_
    refine z_goto C 34 dX2_seekWith_30 (by decide) ?_
    refine z_istore C dX2_seekWith_34 (by decide) [(8, .int (nI 1)), (7, .int (nI (2 ^ (zOw a i)))), (0, .ref (q 0)), (1, .ref (q (9 + z))), (2, .int (nI i)), (3, .int (nI tf)), (4, .int (nI tb)), (5, .int (iZ gi)), (6, .int (nI m))] rfl ?_
    refine z_iload C dX2_seekWith_36 0 rfl ?_
    refine z_if_ne C 49 dX2_seekWith_38 (by decide) (zeq_N0 (by omega)) (fun c_38 => ?_) (fun h9 => absurd h9 (by decide))
    exact z_vretP C dX2_seekWith_49 (by rw [show zSw a k (bs z) i tf tb gi m = bs z from if_neg (by simp_all [zFitb]), zup_id])
  · skip
    refine z_iload C dX2_seekWith_21 5 rfl ?_
    refine z_iload C dX2_seekWith_23 0 rfl ?_
    refine z_iand C dX2_seekWith_25 (v := nI (tb &&& (2 ^ (zOw a i)))) (zand_NN tb (2 ^ (zOw a i))) ?_
    refine z_if_eq C 33 dX2_seekWith_26 (by decide) (zbit_0 (by omega)) (fun c_26 => ?_) (fun c_26 => ?_)
    · skip
      refine z_iconst C (nI 0) dX2_seekWith_33 (by decide) ?_
      refine z_istore C dX2_seekWith_34 (by decide) [(8, .int (nI 0)), (7, .int (nI (2 ^ (zOw a i)))), (0, .ref (q 0)), (1, .ref (q (9 + z))), (2, .int (nI i)), (3, .int (nI tf)), (4, .int (nI tb)), (5, .int (iZ gi)), (6, .int (nI m))] rfl ?_
      refine z_iload C dX2_seekWith_36 0 rfl ?_
      refine z_if_ne C 49 dX2_seekWith_38 (by decide) (zeq_N0 (by omega)) (fun h9 => absurd (by decide) h9) (fun c_38 => ?_)
      refine z_aload_n C dX2_seekWith_41 2 rfl ?_
      refine z_iload_n C dX2_seekWith_42 4 rfl ?_
      refine z_callV C (c_X2_counts l g q a bs wb pd gw ha i (by omega)) (cwV 1 C.ts gX2_seekWith_X2_counts rfl rfl rfl (by decide +kernel) ⟨Nat.le_of_ble_eq_true rfl, Nat.le_of_ble_eq_true rfl⟩) wB_o rfl rfl rfl (Nat.le_of_ble_eq_true rfl) dX2_seekWith_43 ⟨Nat.zero_le _, Nat.zero_le _⟩ (z_i ?_)
      refine z_if_ne C 50 dX2_seekWith_46 (by decide) (zeq_B0 _) (fun c_46 => ?_) (fun c_46 => ?_)
      · skip
        have hf9 : zFitb a i tf tb = true := by simp_all [zFitb]
        have hge := zCn_ge (show zCn a (zOu a) i = true by simp_all)
        have hbn := zGn_bnd ha (b := i) (by omega)
        refine z_aload_n C dX2_seekWith_50 2 rfl ?_
        refine z_aload_n C dX2_seekWith_51 3 rfl ?_
        refine z_iload_n C dX2_seekWith_52 4 rfl ?_
        refine z_iconst C (nI 1) dX2_seekWith_53 (by decide) ?_
        refine z_iadd C dX2_seekWith_54 (v := nI (i + 1)) (nI_add i 1) ?_
        refine z_iload_n C dX2_seekWith_55 5 rfl ?_
        refine z_aload_n C dX2_seekWith_56 2 rfl ?_
        refine z_get C inX2_seekWith_X2 0 wB_o rfl 5 (by decide) (C.w 2 rfl) rfl dX2_seekWith_57 ?_
        refine z_iload_n C dX2_seekWith_60 4 rfl ?_
        refine z_ialdN C 4 wB_bu (by omega) (by decide) dX2_seekWith_61 (v := nI (zBu a i)) rfl ?_
        have f_61b := (ha.bu8 (b := i) (by omega))
        refine z_ior C dX2_seekWith_62 (v := nI (tf ||| (zBu a i))) (zor_NN tf (zBu a i)) ?_
        refine z_iload C dX2_seekWith_63 6 rfl ?_
        refine z_iload C dX2_seekWith_65 1 rfl ?_
        refine z_ior C dX2_seekWith_67 (v := nI (tb ||| (2 ^ (zOw a i)))) (zor_NN tb (2 ^ (zOw a i))) ?_
        refine z_iload C dX2_seekWith_68 7 rfl ?_
        refine z_aload_n C dX2_seekWith_70 2 rfl ?_
        refine z_get C inX2_seekWith_X2 0 wB_o rfl 7 (by decide) (C.w 3 rfl) rfl dX2_seekWith_71 ?_
        refine z_iload_n C dX2_seekWith_74 4 rfl ?_
        refine z_ialdN C 6 wB_G (by omega) (by decide) dX2_seekWith_75 (v := iZ ((zG0 a) i)) rfl ?_
        have f_75b := (zG0_bnd ha i)
        refine z_iadd C dX2_seekWith_76 (v := iZ (gi + zGn a i)) (by rw [iZ_add]; simp [zG0, show i < zNb a by omega]) ?_
        refine z_iload C dX2_seekWith_77 8 rfl ?_
        refine z_iconst C (nI 1) dX2_seekWith_79 (by decide) ?_
        refine z_iload_n C dX2_seekWith_80 4 rfl ?_
        refine z_ishl C dX2_seekWith_81 (v := nI (2 ^ i)) (zshl_1N (by omega)) ?_
        refine z_ior C dX2_seekWith_82 (v := nI (m ||| 2 ^ i)) (zor_NN _ _) ?_
        refine z_callV C (hS bs z hz (i + 1) (tf ||| zBu a i) (tb ||| 2 ^ zOw a i) (m ||| 2 ^ i) (gi + zGn a i) (by omega) hx ⟨by omega, by omega⟩ (zor_lt hm)) (cwV 6 C.ts gX2_seekWith_X2_seek rfl rfl rfl (by decide +kernel) ⟨by dsimp only; omega, by dsimp only; omega⟩) wB_o rfl rfl rfl (Nat.le_of_ble_eq_true rfl) dX2_seekWith_83 ⟨Nat.zero_le _, Nat.zero_le _⟩ (z_v ?_)
        exact z_vretP C dX2_seekWith_86 (by rw [show zSw a k (bs z) i tf tb gi m = _ from if_pos hf9])
      · skip
        exact z_vretP C dX2_seekWith_49 (by rw [show zSw a k (bs z) i tf tb gi m = bs z from if_neg (by simp_all [zFitb]), zup_id])
    · skip
      refine z_iconst C (nI 1) dX2_seekWith_29 (by decide) ?_
      refine z_goto C 34 dX2_seekWith_30 (by decide) ?_
      refine z_istore C dX2_seekWith_34 (by decide) [(8, .int (nI 1)), (7, .int (nI (2 ^ (zOw a i)))), (0, .ref (q 0)), (1, .ref (q (9 + z))), (2, .int (nI i)), (3, .int (nI tf)), (4, .int (nI tb)), (5, .int (iZ gi)), (6, .int (nI m))] rfl ?_
      refine z_iload C dX2_seekWith_36 0 rfl ?_
      refine z_if_ne C 49 dX2_seekWith_38 (by decide) (zeq_N0 (by omega)) (fun c_38 => ?_) (fun h9 => absurd h9 (by decide))
      exact z_vretP C dX2_seekWith_49 (by rw [show zSw a k (bs z) i tf tb gi m = bs z from if_neg (by simp_all [zFitb]), zup_id])
theorem inX2_seek_X2 : ∀ w ∈ wsX20, w ∈ wsX2_seek := fun w h => List.mem_cons_of_mem _ (List.mem_append_left _ (List.mem_append_right _ (h)))
set_option maxRecDepth 100000 in
set_option maxHeartbeats 4000000 in
theorem c_X2_seek (l : Launch) (g : zG) (q : Nat → Nat) (a : zS) (bs : Nat → Int × Nat) (wb pd gw : Nat → Nat → Int) (z : Nat) (ha : zOk a) (hz : z < 3) (k i tf tb m : Nat) (gi : Int) (hik : i + k = zNb a) (hx : zXok (bs z)) (hg : 0 ≤ gi ∧ gi ≤ 999 * i) (hm : m < 2 ^ i) (hW : ∀ j, j < k → zSwM l g q a wb pd gw j) : zM g l yX2_seek wsX2_seek { frames := 2 * k + 3, cells := 0, slots := 0, locals := 55 * k + 66 } [.ref (q 0), .ref (q (9 + z)), .int (nI i), .int (nI tf), .int (nI tb), .int (iZ gi), .int (nI m)] (wB g q a (zG0 a) bs wb pd gw) (zPv (wB g q a (zG0 a) (va_up bs z (zDfs a k (zCons (bs z) (gi, m)) i tf tb gi m)) wb pd gw)) 0 0 := by
  refine zM.of (cc := cX2_seek) (nL := 8) (ret := none) (lv := [(0, .ref (q 0)), (1, .ref (q (9 + z))), (2, .int (nI i)), (3, .int (nI tf)), (4, .int (nI tb)), (5, .int (iZ gi)), (6, .int (nI m))]) (by decide) rfl (Nat.le_of_ble_eq_true rfl) rfl ?_
  intro E C0 hi
  have C : zC g E cX2_seek RX2 wsX2_seek 8 none := C0
  obtain ⟨hnf, hnd, hnb, hou, hrs, hbd⟩ := id ha
  have hm12 : 2 ^ i ≤ 2 ^ 12 := zp2_le (by omega)
  have h1 : zB31 gi := by unfold zB31; omega
  have h2 : zB31 (bs z).1 := by have := hx.1; have := hx.2.1; unfold zB31; omega
  have h3 : m < 4096 := by omega
  have h4 := hx.2.2
  have hx0 : zXok (zCons (bs z) (gi, m)) := zCons_ok hx ⟨hg.1, by show gi ≤ 11988; omega, h3⟩
  refine z_aload_n C dX2_seek_0 1 rfl ?_
  refine z_iload C dX2_seek_1 5 rfl ?_
  refine z_iload C dX2_seek_3 6 rfl ?_
  refine z_callVN C (c_X0_consider l g q a bs wb pd gw z hz gi m h1 h2 h3 h4) ⟨va_cnB 2 C.ts ggX2_seek_X0_consider rfl rfl rfl (C.K.2.1 _ (List.mem_of_getElem? (i := 12) rfl)) (C.w 3 rfl) (by decide +kernel) ⟨by dsimp only; omega, by dsimp only; omega⟩, (C.w 2 rfl), (C.w 4 rfl)⟩ (wB_bs (z := z) (by omega)) rfl rfl rfl (Nat.le_of_ble_eq_true rfl) dX2_seek_5 ⟨Nat.zero_le _, Nat.zero_le _⟩ (z_v ?_)
  refine z_iload_n C dX2_seek_8 2 rfl ?_
  refine z_istore C dX2_seek_9 (by decide) [(7, .int (nI i)), (0, .ref (q 0)), (1, .ref (q (9 + z))), (2, .int (nI i)), (3, .int (nI tf)), (4, .int (nI tb)), (5, .int (iZ gi)), (6, .int (nI m))] rfl ?_
  refine zW.pick (lv' := [(0, .ref (q 0)), (1, .ref (q (9 + z))), (2, .int (nI i)), (3, .int (nI tf)), (4, .int (nI tb)), (5, .int (iZ gi)), (6, .int (nI m)), (7, .int (nI i))]) [1, 2, 3, 4, 5, 6, 7, 0] rfl ?_
  have hlp11 : ∀ (kk j : Nat) (x : Int × Nat), j + kk = zNb a → (i ≤ j) → (zXok x) → (zDfs a kk x j tf tb gi m = zDfs a k (zCons (bs z) (gi, m)) i tf tb gi m) → zW g l ({ frames := 2 * k + 3, cells := 0, slots := 0, locals := 55 * k + 66 }) E (zMQ g E (zPv (wB g q a (zG0 a) (va_up bs z (zDfs a k (zCons (bs z) (gi, m)) i tf tb gi m)) wb pd gw)) 0 0) 8 0 0 (wB g q a (zG0 a) (va_up bs z x) wb pd gw) [(0, .ref (q 0)), (1, .ref (q (9 + z))), (2, .int (nI i)), (3, .int (nI tf)), (4, .int (nI tb)), (5, .int (iZ gi)), (6, .int (nI m)), (7, .int (nI j))] [] 11 := by
    intro kk
    induction kk with
    | zero =>
      intro j x hjk hij hxx hr
      refine z_iload C dX2_seek_11 7 rfl ?_
      refine z_aload_n C dX2_seek_13 0 rfl ?_
      refine z_get C inX2_seek_X2 0 wB_o rfl 10 (by decide) (C.w 1 rfl) rfl dX2_seek_14 ?_
      refine z_icmp_ge C 40 dX2_seek_17 (by decide) (zle_NN (by omega) (by omega)) (fun c_17 => ?_) (fun h9 => absurd (by omega) h9)
      exact z_vretP C dX2_seek_40 (by rw [← hr]; rfl)
    | succ kk ih11 =>
      intro j x hjk hij hxx hr
      refine z_iload C dX2_seek_11 7 rfl ?_
      refine z_aload_n C dX2_seek_13 0 rfl ?_
      refine z_get C inX2_seek_X2 0 wB_o rfl 10 (by decide) (C.w 1 rfl) rfl dX2_seek_14 ?_
      refine z_icmp_ge C 40 dX2_seek_17 (by decide) (zle_NN (by omega) (by omega)) (fun h9 => absurd h9 (by omega)) (fun c_17 => ?_)
      refine z_aload_n C dX2_seek_20 0 rfl ?_
      refine z_aload_n C dX2_seek_21 1 rfl ?_
      refine z_iload C dX2_seek_22 7 rfl ?_
      refine z_iload_n C dX2_seek_24 3 rfl ?_
      refine z_iload C dX2_seek_25 4 rfl ?_
      refine z_iload C dX2_seek_27 5 rfl ?_
      refine z_iload C dX2_seek_29 6 rfl ?_
      refine z_callV C (hW kk (by omega) (va_up bs z x) z hz j tf tb m gi (by omega) (by rw [va_up_self]; exact hxx) ⟨hg.1, by omega⟩ (Nat.lt_of_lt_of_le hm (zp2_le (by omega)))) (cwV 6 C.ts gX2_seek_X2_seekWith rfl rfl rfl (by decide +kernel) ⟨by dsimp only; omega, by dsimp only; omega⟩) wB_o rfl rfl rfl (Nat.le_of_ble_eq_true rfl) dX2_seek_31 ⟨Nat.zero_le _, Nat.zero_le _⟩ (z_v ?_)
      rw [bx_uu, va_up_self]
      refine z_iinc C dX2_seek_34 7 (nI (j + 1)) rfl (nI_add j 1) (by decide) [(7, .int (nI (j + 1))), (0, .ref (q 0)), (1, .ref (q (9 + z))), (2, .int (nI i)), (3, .int (nI tf)), (4, .int (nI tb)), (5, .int (iZ gi)), (6, .int (nI m))] rfl ?_
      refine z_goto C 11 dX2_seek_37 (by decide) ?_
      refine zW.pick (lv' := [(0, .ref (q 0)), (1, .ref (q (9 + z))), (2, .int (nI i)), (3, .int (nI tf)), (4, .int (nI tb)), (5, .int (iZ gi)), (6, .int (nI m)), (7, .int (nI (j + 1)))]) [1, 2, 3, 4, 5, 6, 7, 0] rfl ?_
      exact ih11 (j + 1) (zSw a kk x j tf tb gi m) (by omega) (by omega) (zSw_ok ha (by omega) hxx hg.1 (by omega) (Nat.lt_of_lt_of_le hm (zp2_le hij))) hr
  exact hlp11 k i (zCons (bs z) (gi, m)) (by omega) (Nat.le_refl i) hx0 rfl
theorem zSkM_all (l : Launch) (g : zG) (q : Nat → Nat) (a : zS) (wb pd gw : Nat → Nat → Int) (ha : zOk a) : ∀ k, zSkM l g q a wb pd gw k := by
  intro k
  induction k using Nat.strongRecOn with
  | _ k ih => exact fun bs z hz i tf tb m gi hik hx hg hm => c_X2_seek l g q a bs wb pd gw z ha hz k i tf tb m gi hik hx hg hm (fun j hj bs z hz i tf tb m gi hik hx hg hm => c_X2_seekWith l g q a bs wb pd gw z ha hz j i tf tb m gi hik hx hg hm (ih j hj))
