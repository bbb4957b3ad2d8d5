theorem zn64 {r : UInt64} (h : FP.Core.dIsNaN r = false) : vf_n64 r := by
  have h1 : ¬ 9218868437227405312 < r.toNat % 2 ^ 63 := fun q => by
    rw [(FP.Core.isNaN_bits r).mpr q] at h
    cases h
  unfold vf_n64
  rw [UInt64.le_iff_toNat_le, UInt64.toNat_and]
  show r.toNat &&& (2 ^ 63 - 1) ≤ _
  rw [Nat.and_two_pow_sub_one_eq_mod]
  exact Nat.not_lt.mp h1
theorem zdiv_no (x y : Int32) (hy : y ≠ 0) : FP.Core.dIsNaN (FP.ddiv (FP.i2d x) (FP.i2d y)) = false := by
  refine FP.Core.ddiv_out (a := FP.Core.i2d x) (b := FP.Core.i2d y) ?_ (FP.Core.i2d_fin y) (fun h => FP.Core.i2d_ne_zero hy ((FP.Core.zero_bits2 _).mp h))
  rw [FP.Core.notNaN_iff]
  exact (FP.Core.i2d_fin x).ne_nan
theorem zdiv_ok (x y : Int32) (hy : y ≠ 0) : vf_n64 (FP.ddiv (FP.i2d x) (FP.i2d y)) := zn64 (zdiv_no x y hy)
/-- an answer of told -/
def aTold (a : zS) (b w : Nat) : Int := match w with
  | 0 => (zOw a b : Int)
  | 1 => (zBu a b : Int)
  | 2 => (zPr a b : Int)
  | 3 => (zWo a b : Int)
  | 4 => (zGo a b : Int)
  | 5 => zGn a b
  | 6 => if zCn a (zOu a) b = true then 1 else 0
  | _ => if (zFw a 0).2.testBit b = true then 1 else 0
def aWin (a : zS) (d : Nat) : Int := zLw a (zFw a 0).2 (zNb a) d
def aPaid (a : zS) (d : Nat) : Int := zLp a 0 (zNb a) d
def aProf (a : zS) (d : Nat) : Int := zPfv a (aWin a d) (aPaid a d)
def aAbout (a : zS) (d w : Nat) : Int := match w with
  | 0 => if zIn a d = true then 1 else 0
  | 1 => (zLof a d : Int)
  | 2 => aWin a d
  | 3 => aPaid a d
  | 4 => aProf a d
  | _ => zGw a 0 d
/-- who gets a field: the bid -/
def aWf (a : zS) (f : Nat) : Int := zFst (fun b => (zFw a 0).2.testBit b && (zBu a b).testBit f) 0 (zNb a)
def aLand (a : zS) (f w : Nat) : Int := match w with
  | 0 => (zRs a f : Int)
  | 1 => if aWf a f = -1 then -1 else (zOw a (aWf a f).toNat : Int)
  | _ => (zCnt (fun b => zCn a (zOu a) b && (zBu a b).testBit f) (zNb a) : Int)
def aSold (a : zS) : Nat := zOrs (fun b => if (zFw a 0).2.testBit b = true then zBu a b else 0) (zNb a)
def aCount (a : zS) (w : Nat) : Int := match w with
  | 0 => (zNf a : Int)
  | 1 => (zNd a : Int)
  | 2 => (zNb a : Int)
  | 3 => (zFw a 0).1
  | 4 => (zPop (zFw a 0).2 12 : Int)
  | 5 => (zPop (aSold a) 12 : Int)
  | 6 => zSi (aPaid a) 5
  | 7 => zSi (aProf a) (zNd a)
  | _ => (zSum (fun b => if (zFw a 0).2.testBit b = true then zPr a b else 0) (zNb a) : Int)
def aHi (a : zS) (f : Nat) (lo : Int) : Int := zHi a (zCo a f lo) (zNb a)
def aAlone (a : zS) (f w : Nat) : Int := if aHi a f (-1) = -1 then -1 else match w with
  | 0 => aHi a f (-1)
  | 1 => (zOw a (aHi a f (-1)).toNat : Int)
  | _ => if aHi a f (zOw a (aHi a f (-1)).toNat : Int) = -1 then (zRs a f : Int) else (zPr a (aHi a f (zOw a (aHi a f (-1)).toNat : Int)).toNat : Int)
theorem zOrs_lt {f : Nat → Nat} {k : Nat} : ∀ n, (∀ i, i < n → f i < 2 ^ k) → zOrs f n < 2 ^ k
  | 0, _ => Nat.two_pow_pos k
  | n + 1, h => by
    unfold zOrs
    exact Nat.or_lt_two_pow (zOrs_lt n (fun i hi => h i (by omega))) (h n (by omega))
theorem aSold_lt {a : zS} (ha : zOk a) : aSold a < 256 := by
  unfold aSold
  refine zOrs_lt (k := 8) _ (fun i hi => ?_)
  split
  · exact ha.bu8 hi
  · decide
theorem bI_Z (b : Bool) : bI b = iZ (if b = true then 1 else 0) := by cases b <;> rfl
theorem zSet.wb {a : zS} {bs : Nat → Int × Nat} {wb pd gw : Nat → Nat → Int} {z ab : Nat} (h : zSet a bs wb pd gw z ab) {d : Nat} (hd : d < 5) : wb z d = zLw a (zFw a ab).2 (zNb a) d := (h.2 d hd).1
theorem zSet.pd {a : zS} {bs : Nat → Int × Nat} {wb pd gw : Nat → Nat → Int} {z ab : Nat} (h : zSet a bs wb pd gw z ab) {d : Nat} (hd : d < 5) : pd z d = zLp a ab (zNb a) d := (h.2 d hd).2.1
theorem zSet.gw {a : zS} {bs : Nat → Int × Nat} {wb pd gw : Nat → Nat → Int} {z ab : Nat} (h : zSet a bs wb pd gw z ab) {d : Nat} (hd : d < 5) : gw z d = zGw a ab d := (h.2 d hd).2.2
theorem zSet.wor {a : zS} {bs : Nat → Int × Nat} {wb pd gw : Nat → Nat → Int} {z ab : Nat} (h : zSet a bs wb pd gw z ab) : ∀ d, d < 5 → wb z d = -1 ∨ ∃ c, c < zNb a ∧ wb z d = (c : Int) := by
  intro d hd
  rw [h.wb hd]
  rcases zLw_or a (zFw a ab).2 d (zNb a) with h1 | ⟨c, h1, h2, -⟩
  · exact Or.inl h1
  · exact Or.inr ⟨c, h1, h2⟩
set_option maxRecDepth 100000 in
set_option maxHeartbeats 4000000 in
theorem c_X2_asNumber_N  (l : Launch) (g : zG) (w : va_W) (n : Nat) (hn : n ≤ 1) : zM g l yX2_asNumber wsX2_asNumber { frames := 0, cells := 0, slots := 0, locals := 0 } [.int (nI n)] (w) (zPi (nI n) (w)) 0 0 := by
  refine zM.of (cc := cX2_asNumber) (nL := 1) (ret := (some .int)) (lv := [(0, .int (nI n))]) (by decide) rfl (Nat.le_of_ble_eq_true rfl) rfl ?_
  intro E C0 hi
  have C : zC g E cX2_asNumber RX2 wsX2_asNumber 1 (some .int) := C0
  refine z_iload_n C dX2_asNumber_0 0 rfl ?_
  refine z_if_eq C 8 dX2_asNumber_1 (by decide) (zeq_N0 (by omega)) (fun c_1 => ?_) (fun c_1 => ?_)
  · skip
    refine z_iconst C (nI 0) dX2_asNumber_8 (by decide) ?_
    exact z_iretP C dX2_asNumber_9 (by first | (rw [c_1]; done) | (rw [show n = 1 by omega]; done)) rfl
  · skip
    refine z_iconst C (nI 1) dX2_asNumber_4 (by decide) ?_
    refine z_goto C 9 dX2_asNumber_5 (by decide) ?_
    exact z_iretP C dX2_asNumber_9 (by first | (rw [c_1]; done) | (rw [show n = 1 by omega]; done)) rfl
theorem inX2_told_X1 : ∀ w ∈ wsX10, w ∈ wsX2_told := fun w h => List.mem_cons_of_mem _ (List.mem_append_left _ (List.mem_append_left _ (List.mem_append_right _ (h))))
theorem inX2_told_X2 : ∀ w ∈ wsX20, w ∈ wsX2_told := fun w h => List.mem_cons_of_mem _ (List.mem_append_left _ (List.mem_append_left _ (List.mem_append_left _ (List.mem_append_right _ (h)))))
set_option maxRecDepth 100000 in
set_option maxHeartbeats 4000000 in
theorem c_X2_told (l : Launch) (g : zG) (q : Nat → Nat) (a : zS) (bs : Nat → Int × Nat) (wb pd gw : Nat → Nat → Int) (ha : zOk a) (hs : zSet a bs wb pd gw 0 0) (b w : Nat) (hb : b < zNb a) (hw : w ≤ 7) : zM g l yX2_told wsX2_told { frames := 1, cells := 0, slots := 0, locals := 21 } [.ref (q 0), .int (nI b), .int (nI w)] (wB g q a (zG0 a) bs wb pd gw) (zPi (iZ (aTold a b w)) (wB g q a (zG0 a) bs wb pd gw)) 0 0 := by
  refine zM.of (cc := cX2_told) (nL := 3) (ret := (some .int)) (lv := [(0, .ref (q 0)), (1, .int (nI b)), (2, .int (nI w))]) (by decide) rfl (Nat.le_of_ble_eq_true rfl) rfl ?_
  intro E C0 hi
  have C : zC g E cX2_told RX2 wsX2_told 3 (some .int) := C0
  obtain ⟨hnf, hnd, hnb, hou, hrs, hbd⟩ := id ha
  have hxo := zFw_ok ha 0
  refine z_aload_n C dX2_told_0 0 rfl ?_
  refine z_iload_n C dX2_told_1 1 rfl ?_
  refine z_callV C (c_X2_requireBid l g q a bs wb pd gw ha b (by omega)) (cwV 1 C.ts gX2_told_X2_requireBid rfl rfl rfl (by decide +kernel) ⟨Nat.le_of_ble_eq_true rfl, Nat.le_of_ble_eq_true rfl⟩) wB_o rfl rfl rfl (Nat.le_of_ble_eq_true rfl) dX2_told_2 ⟨Nat.zero_le _, Nat.zero_le _⟩ (z_v ?_)
  refine z_iload_n C dX2_told_5 2 rfl ?_
  refine z_bipush C (nI 7) dX2_told_6 (by decide) ?_
  refine z_callS C (c_X2_requireWhat l g (wB g q a (zG0 a) bs wb pd gw) w 7 (by omega) (by omega)) (va_cwS 2 C.ts gX2_told_X2_requireWhat rfl rfl rfl (by decide +kernel) ⟨Nat.le_of_ble_eq_true rfl, Nat.le_of_ble_eq_true rfl⟩) rfl rfl (Nat.le_of_ble_eq_true rfl) dX2_told_8 ⟨Nat.zero_le _, Nat.zero_le _⟩ (z_v ?_)
  refine z_iload_n C dX2_told_11 2 rfl ?_
  rcases (show w = 0 ∨ w = 1 ∨ w = 2 ∨ w = 3 ∨ w = 4 ∨ w = 5 ∨ w = 6 ∨ w = 7 by omega) with rfl | rfl | rfl | rfl | rfl | rfl | rfl | rfl
  · skip
    refine z_tabIn C 56 dX2_told_12 (by decide) (by decide) (off := 44) (by decide) (by decide) ?_
    refine z_aload_n C dX2_told_56 0 rfl ?_
    refine z_get C inX2_told_X2 0 wB_o rfl 4 (by decide) (C.w 1 rfl) rfl dX2_told_57 ?_
    refine z_iload_n C dX2_told_60 1 rfl ?_
    refine z_ialdN C 3 wB_ow (by omega) (by decide) dX2_told_61 (v := nI (zOw a b)) rfl ?_
    have f_61b := (ha.ow (b := b) (by omega))
    exact z_iretP C dX2_told_62 rfl rfl
  · skip
    refine z_tabIn C 63 dX2_told_12 (by decide) (by decide) (off := 51) (by decide) (by decide) ?_
    refine z_aload_n C dX2_told_63 0 rfl ?_
    refine z_get C inX2_told_X2 0 wB_o rfl 5 (by decide) (C.w 2 rfl) rfl dX2_told_64 ?_
    refine z_iload_n C dX2_told_67 1 rfl ?_
    refine z_ialdN C 4 wB_bu (by omega) (by decide) dX2_told_68 (v := nI (zBu a b)) rfl ?_
    have f_68b := (ha.bu8 (b := b) (by omega))
    exact z_iretP C dX2_told_69 rfl rfl
  · skip
    refine z_tabIn C 70 dX2_told_12 (by decide) (by decide) (off := 58) (by decide) (by decide) ?_
    refine z_aload_n C dX2_told_70 0 rfl ?_
    refine z_get C inX2_told_X2 0 wB_o rfl 6 (by decide) (C.w 3 rfl) rfl dX2_told_71 ?_
    refine z_iload_n C dX2_told_74 1 rfl ?_
    refine z_ialdN C 5 wB_pr (by omega) (by decide) dX2_told_75 (v := nI (zPr a b)) rfl ?_
    have f_75b := (ha.pr (b := b) (by omega))
    exact z_iretP C dX2_told_76 rfl rfl
  · skip
    refine z_tabIn C 77 dX2_told_12 (by decide) (by decide) (off := 65) (by decide) (by decide) ?_
    refine z_aload_n C dX2_told_77 0 rfl ?_
    refine z_get C inX2_told_X2 0 wB_o rfl 8 (by decide) (C.w 4 rfl) rfl dX2_told_78 ?_
    refine z_iload_n C dX2_told_81 1 rfl ?_
    refine z_ialdN C 7 wB_wo (by omega) (by decide) dX2_told_82 (v := nI (zWo a b)) rfl ?_
    have f_82b := (ha.wo (b := b) (by omega))
    exact z_iretP C dX2_told_83 rfl rfl
  · skip
    refine z_tabIn C 84 dX2_told_12 (by decide) (by decide) (off := 72) (by decide) (by decide) ?_
    refine z_aload_n C dX2_told_84 0 rfl ?_
    refine z_get C inX2_told_X2 0 wB_o rfl 9 (by decide) (C.w 5 rfl) rfl dX2_told_85 ?_
    refine z_iload_n C dX2_told_88 1 rfl ?_
    refine z_zaldN C 8 wB_go (by omega) (by decide) dX2_told_89 (v := nI (zGo a b)) rfl ?_
    have f_89b := (ha.go (b := b) (by omega))
    refine z_callS C (c_X2_asNumber_N l g (wB g q a (zG0 a) bs wb pd gw) (zGo a b) (by omega)) (va_cwS 1 C.ts gX2_told_X2_asNumber rfl rfl rfl (by decide +kernel) ⟨Nat.le_of_ble_eq_true rfl, Nat.le_of_ble_eq_true rfl⟩) rfl rfl (Nat.le_of_ble_eq_true rfl) dX2_told_90 ⟨Nat.zero_le _, Nat.zero_le _⟩ (z_i ?_)
    exact z_iretP C dX2_told_93 rfl rfl
  · skip
    refine z_tabIn C 94 dX2_told_12 (by decide) (by decide) (off := 82) (by decide) (by decide) ?_
    refine z_aload_n C dX2_told_94 0 rfl ?_
    refine z_get C inX2_told_X2 0 wB_o rfl 7 (by decide) (C.w 6 rfl) rfl dX2_told_95 ?_
    refine z_iload_n C dX2_told_98 1 rfl ?_
    refine z_ialdN C 6 wB_G (by omega) (by decide) dX2_told_99 (v := iZ ((zG0 a) b)) rfl ?_
    have f_99b := (zG0_bnd ha b)
    exact z_iretP C dX2_told_100 (by show iZ (zG0 a b) = iZ (zGn a b); unfold zG0; rw [if_pos hb]) rfl
  · skip
    refine z_tabIn C 101 dX2_told_12 (by decide) (by decide) (off := 89) (by decide) (by decide) ?_
    refine z_aload_n C dX2_told_101 0 rfl ?_
    refine z_iload_n C dX2_told_102 1 rfl ?_
    refine z_callV C (c_X2_counts l g q a bs wb pd gw ha b (by omega)) (cwV 1 C.ts gX2_told_X2_counts rfl rfl rfl (by decide +kernel) ⟨Nat.le_of_ble_eq_true rfl, Nat.le_of_ble_eq_true rfl⟩) wB_o rfl rfl rfl (Nat.le_of_ble_eq_true rfl) dX2_told_103 ⟨Nat.zero_le _, Nat.zero_le _⟩ (z_i ?_)
    refine z_callS C (c_X2_asNumber l g (wB g q a (zG0 a) bs wb pd gw) (zCn a (zOu a) b)) (va_cwS 1 C.ts gX2_told_X2_asNumber rfl rfl rfl (by decide +kernel) ⟨Nat.le_of_ble_eq_true rfl, Nat.le_of_ble_eq_true rfl⟩) rfl rfl (Nat.le_of_ble_eq_true rfl) dX2_told_106 ⟨Nat.zero_le _, Nat.zero_le _⟩ (z_i ?_)
    exact z_iretP C dX2_told_109 (bI_Z _) rfl
  · skip
    refine z_tabOut C 110 dX2_told_12 (by decide) (by decide) ?_
    refine z_aload_n C dX2_told_110 0 rfl ?_
    refine z_get C inX2_told_X2 0 wB_o rfl 11 (by decide) (C.w 7 rfl) rfl dX2_told_111 ?_
    refine z_getN C inX2_told_X1 (12 + 0) (wB_sl (z := 0) (by decide)) rfl 0 (by decide) 2 rfl rfl dX2_told_114 ?_
    refine z_iload_n C dX2_told_117 1 rfl ?_
    refine z_callVN C (c_X0_has l g q a bs wb pd gw 0 (by decide) b (by omega)) ⟨va_cnB 1 C.ts ggX2_told_X0_has rfl rfl rfl (C.K.2.1 _ (List.mem_of_getElem? (i := 13) rfl)) (C.w 28 rfl) (by decide +kernel) ⟨Nat.le_of_ble_eq_true rfl, Nat.le_of_ble_eq_true rfl⟩, (C.w 27 rfl), (C.w 29 rfl)⟩ (wB_bs (z := 0) (by decide)) rfl rfl rfl (Nat.le_of_ble_eq_true rfl) dX2_told_118 ⟨Nat.zero_le _, Nat.zero_le _⟩ (z_i ?_)
    refine z_callS C (c_X2_asNumber l g (wB g q a (zG0 a) bs wb pd gw) ((bs 0).2.testBit b)) (va_cwS 1 C.ts gX2_told_X2_asNumber rfl rfl rfl (by decide +kernel) ⟨Nat.le_of_ble_eq_true rfl, Nat.le_of_ble_eq_true rfl⟩) rfl rfl (Nat.le_of_ble_eq_true rfl) dX2_told_121 ⟨Nat.zero_le _, Nat.zero_le _⟩ (z_i ?_)
    exact z_iretP C dX2_told_124 (by rw [hs.1]; exact bI_Z _) rfl
theorem inX2_about_X1 : ∀ w ∈ wsX10, w ∈ wsX2_about := fun w h => List.mem_cons_of_mem _ (List.mem_append_left _ (List.mem_append_right _ (h)))
theorem inX2_about_X2 : ∀ w ∈ wsX20, w ∈ wsX2_about := fun w h => List.mem_cons_of_mem _ (List.mem_append_left _ (List.mem_append_left _ (List.mem_append_right _ (h))))
set_option maxRecDepth 100000 in
set_option maxHeartbeats 4000000 in
theorem c_X2_about (l : Launch) (g : zG) (q : Nat → Nat) (a : zS) (bs : Nat → Int × Nat) (wb pd gw : Nat → Nat → Int) (ha : zOk a) (hs : zSet a bs wb pd gw 0 0) (d w : Nat) (hd : d < zNd a) (hw : w ≤ 5) : zM g l yX2_about wsX2_about { frames := 1, cells := 0, slots := 0, locals := 23 } [.ref (q 0), .int (nI d), .int (nI w)] (wB g q a (zG0 a) bs wb pd gw) (zPi (iZ (aAbout a d w)) (wB g q a (zG0 a) bs wb pd gw)) 0 0 := by
  refine zM.of (cc := cX2_about) (nL := 3) (ret := (some .int)) (lv := [(0, .ref (q 0)), (1, .int (nI d)), (2, .int (nI w))]) (by decide) rfl (Nat.le_of_ble_eq_true rfl) rfl ?_
  intro E C0 hi
  have C : zC g E cX2_about RX2 wsX2_about 3 (some .int) := C0
  obtain ⟨hnf, hnd, hnb, hou, hrs, hbd⟩ := id ha
  have hxo := zFw_ok ha 0
  have hd5 : d < 5 := by omega
  refine z_aload_n C dX2_about_0 0 rfl ?_
  refine z_iload_n C dX2_about_1 1 rfl ?_
  refine z_callV C (c_X2_requireBidder l g q a bs wb pd gw ha d (by omega)) (cwV 1 C.ts gX2_about_X2_requireBidder rfl rfl rfl (by decide +kernel) ⟨Nat.le_of_ble_eq_true rfl, Nat.le_of_ble_eq_true rfl⟩) wB_o rfl rfl rfl (Nat.le_of_ble_eq_true rfl) dX2_about_2 ⟨Nat.zero_le _, Nat.zero_le _⟩ (z_v ?_)
  refine z_iload_n C dX2_about_5 2 rfl ?_
  refine z_iconst C (nI 5) dX2_about_6 (by decide) ?_
  refine z_callS C (c_X2_requireWhat l g (wB g q a (zG0 a) bs wb pd gw) w 5 (by omega) (by omega)) (va_cwS 2 C.ts gX2_about_X2_requireWhat rfl rfl rfl (by decide +kernel) ⟨Nat.le_of_ble_eq_true rfl, Nat.le_of_ble_eq_true rfl⟩) rfl rfl (Nat.le_of_ble_eq_true rfl) dX2_about_7 ⟨Nat.zero_le _, Nat.zero_le _⟩ (z_v ?_)
  refine z_iload_n C dX2_about_10 2 rfl ?_
  rcases (show w = 0 ∨ w = 1 ∨ w = 2 ∨ w = 3 ∨ w = 4 ∨ w = 5 by omega) with rfl | rfl | rfl | rfl | rfl | rfl
  · skip
    refine z_tabIn C 44 dX2_about_11 (by decide) (by decide) (off := 33) (by decide) (by decide) ?_
    refine z_aload_n C dX2_about_44 0 rfl ?_
    refine z_get C inX2_about_X2 0 wB_o rfl 2 (by decide) (C.w 1 rfl) rfl dX2_about_45 ?_
    refine z_iload_n C dX2_about_48 1 rfl ?_
    refine z_zaldN C 2 wB_in (by omega) (by decide) dX2_about_49 (v := bI (zIn a d)) rfl ?_
    refine z_callS C (c_X2_asNumber l g (wB g q a (zG0 a) bs wb pd gw) (zIn a d)) (va_cwS 1 C.ts gX2_about_X2_asNumber rfl rfl rfl (by decide +kernel) ⟨Nat.le_of_ble_eq_true rfl, Nat.le_of_ble_eq_true rfl⟩) rfl rfl (Nat.le_of_ble_eq_true rfl) dX2_about_50 ⟨Nat.zero_le _, Nat.zero_le _⟩ (z_i ?_)
    exact z_iretP C dX2_about_53 (bI_Z _) rfl
  · skip
    refine z_tabIn C 54 dX2_about_11 (by decide) (by decide) (off := 43) (by decide) (by decide) ?_
    refine z_aload_n C dX2_about_54 0 rfl ?_
    refine z_iload_n C dX2_about_55 1 rfl ?_
    refine z_callV C (c_X2_bidsLeftOf l g q a bs wb pd gw ha d (by omega)) (cwV 1 C.ts gX2_about_X2_bidsLeftOf rfl rfl rfl (by decide +kernel) ⟨Nat.le_of_ble_eq_true rfl, Nat.le_of_ble_eq_true rfl⟩) wB_o rfl rfl rfl (Nat.le_of_ble_eq_true rfl) dX2_about_56 ⟨Nat.zero_le _, Nat.zero_le _⟩ (z_i ?_)
    exact z_iretP C dX2_about_59 rfl rfl
  · skip
    refine z_tabIn C 60 dX2_about_11 (by decide) (by decide) (off := 49) (by decide) (by decide) ?_
    refine z_aload_n C dX2_about_60 0 rfl ?_
    refine z_get C inX2_about_X2 0 wB_o rfl 11 (by decide) (C.w 2 rfl) rfl dX2_about_61 ?_
    refine z_getN C inX2_about_X1 (12 + 0) (wB_sl (z := 0) (by decide)) rfl 1 (by decide) 3 rfl rfl dX2_about_64 ?_
    refine z_iload_n C dX2_about_67 1 rfl ?_
    refine z_ialdN C (14 + 0) (wB_wb (z := 0) (by decide)) (by omega) (by decide) dX2_about_68 (v := iZ (wb 0 d)) rfl ?_
    exact z_iretP C dX2_about_69 (by rw [hs.wb hd5]; rfl) rfl
  · skip
    refine z_tabIn C 70 dX2_about_11 (by decide) (by decide) (off := 59) (by decide) (by decide) ?_
    refine z_aload_n C dX2_about_70 0 rfl ?_
    refine z_get C inX2_about_X2 0 wB_o rfl 11 (by decide) (C.w 2 rfl) rfl dX2_about_71 ?_
    refine z_getN C inX2_about_X1 (12 + 0) (wB_sl (z := 0) (by decide)) rfl 2 (by decide) 4 rfl rfl dX2_about_74 ?_
    refine z_iload_n C dX2_about_77 1 rfl ?_
    refine z_ialdN C (16 + 0) (wB_pd (z := 0) (by decide)) (by omega) (by decide) dX2_about_78 (v := iZ (pd 0 d)) rfl ?_
    exact z_iretP C dX2_about_79 (by rw [hs.pd hd5]; rfl) rfl
  · skip
    refine z_tabIn C 80 dX2_about_11 (by decide) (by decide) (off := 69) (by decide) (by decide) ?_
    refine z_aload_n C dX2_about_80 0 rfl ?_
    refine z_aload_n C dX2_about_81 0 rfl ?_
    refine z_get C inX2_about_X2 0 wB_o rfl 11 (by decide) (C.w 2 rfl) rfl dX2_about_82 ?_
    refine z_iload_n C dX2_about_85 1 rfl ?_
    refine z_callV C (c_X2_profit l g q a bs wb pd gw 0 ha (by decide) d (by omega) (hs.wor _ hd5)) (cwV 2 C.ts gX2_about_X2_profit rfl rfl rfl (by decide +kernel) ⟨Nat.le_of_ble_eq_true rfl, Nat.le_of_ble_eq_true rfl⟩) wB_o rfl rfl rfl (Nat.le_of_ble_eq_true rfl) dX2_about_86 ⟨Nat.zero_le _, Nat.zero_le _⟩ (z_i ?_)
    exact z_iretP C dX2_about_89 (by rw [hs.wb hd5, hs.pd hd5]; rfl) rfl
  · skip
    refine z_tabOut C 90 dX2_about_11 (by decide) (by decide) ?_
    refine z_aload_n C dX2_about_90 0 rfl ?_
    refine z_get C inX2_about_X2 0 wB_o rfl 11 (by decide) (C.w 2 rfl) rfl dX2_about_91 ?_
    refine z_getN C inX2_about_X1 (12 + 0) (wB_sl (z := 0) (by decide)) rfl 3 (by decide) 5 rfl rfl dX2_about_94 ?_
    refine z_iload_n C dX2_about_97 1 rfl ?_
    refine z_ialdN C (18 + 0) (wB_gw (z := 0) (by decide)) (by omega) (by decide) dX2_about_98 (v := iZ (gw 0 d)) rfl ?_
    exact z_iretP C dX2_about_99 (by rw [hs.gw hd5]; rfl) rfl
theorem inX2_land_X2 : ∀ w ∈ wsX20, w ∈ wsX2_land := fun w h => List.mem_cons_of_mem _ (List.mem_append_left _ (List.mem_append_left _ (List.mem_append_left _ (List.mem_append_right _ (h)))))
set_option maxRecDepth 100000 in
set_option maxHeartbeats 4000000 in
theorem c_X2_land (l : Launch) (g : zG) (q : Nat → Nat) (a : zS) (bs : Nat → Int × Nat) (wb pd gw : Nat → Nat → Int) (ha : zOk a) (hs : zSet a bs wb pd gw 0 0) (f w : Nat) (hf : f < zNf a) (hw : w ≤ 2) : zM g l yX2_land wsX2_land { frames := 2, cells := 0, slots := 0, locals := 44 } [.ref (q 0), .int (nI f), .int (nI w)] (wB g q a (zG0 a) bs wb pd gw) (zPi (iZ (aLand a f w)) (wB g q a (zG0 a) bs wb pd gw)) 0 0 := by
  refine zM.of (cc := cX2_land) (nL := 3) (ret := (some .int)) (lv := [(0, .ref (q 0)), (1, .int (nI f)), (2, .int (nI w))]) (by decide) rfl (Nat.le_of_ble_eq_true rfl) rfl ?_
  intro E C0 hi
  have C : zC g E cX2_land RX2 wsX2_land 3 (some .int) := C0
  obtain ⟨hnf, hnd, hnb, hou, hrs, hbd⟩ := id ha
  have hxo := zFw_ok ha 0
  refine z_aload_n C dX2_land_0 0 rfl ?_
  refine z_iload_n C dX2_land_1 1 rfl ?_
  refine z_callV C (c_X2_requireField l g q a bs wb pd gw ha f (by omega)) (cwV 1 C.ts gX2_land_X2_requireField rfl rfl rfl (by decide +kernel) ⟨Nat.le_of_ble_eq_true rfl, Nat.le_of_ble_eq_true rfl⟩) wB_o rfl rfl rfl (Nat.le_of_ble_eq_true rfl) dX2_land_2 ⟨Nat.zero_le _, Nat.zero_le _⟩ (z_v ?_)
  refine z_iload_n C dX2_land_5 2 rfl ?_
  refine z_iconst C (nI 2) dX2_land_6 (by decide) ?_
  refine z_callS C (c_X2_requireWhat l g (wB g q a (zG0 a) bs wb pd gw) w 2 (by omega) (by omega)) (va_cwS 2 C.ts gX2_land_X2_requireWhat rfl rfl rfl (by decide +kernel) ⟨Nat.le_of_ble_eq_true rfl, Nat.le_of_ble_eq_true rfl⟩) rfl rfl (Nat.le_of_ble_eq_true rfl) dX2_land_7 ⟨Nat.zero_le _, Nat.zero_le _⟩ (z_v ?_)
  refine z_iload_n C dX2_land_10 2 rfl ?_
  rcases (show w = 0 ∨ w = 1 ∨ w = 2 by omega) with rfl | rfl | rfl
  · skip
    refine z_lookup C 36 dX2_land_11 (by decide) (off := 25) (by decide) (by decide) ?_
    refine z_aload_n C dX2_land_36 0 rfl ?_
    refine z_get C inX2_land_X2 0 wB_o rfl 0 (by decide) (C.w 1 rfl) rfl dX2_land_37 ?_
    refine z_iload_n C dX2_land_40 1 rfl ?_
    refine z_ialdN C 1 wB_rs (by omega) (by decide) dX2_land_41 (v := nI (zRs a f)) rfl ?_
    have f_41b := (ha.rs (f := f) (by omega))
    exact z_iretP C dX2_land_42 rfl rfl
  · skip
    refine z_lookup C 43 dX2_land_11 (by decide) (off := 32) (by decide) (by decide) ?_
    refine z_aload_n C dX2_land_43 0 rfl ?_
    refine z_aload_n C dX2_land_44 0 rfl ?_
    refine z_iload_n C dX2_land_45 1 rfl ?_
    refine z_callV C (c_X2_winnerOfField l g q a bs wb pd gw ha f (by omega)) (cwV 1 C.ts gX2_land_X2_winnerOfField rfl rfl rfl (by decide +kernel) ⟨Nat.le_of_ble_eq_true rfl, Nat.le_of_ble_eq_true rfl⟩) wB_o rfl rfl rfl (Nat.le_of_ble_eq_true rfl) dX2_land_46 ⟨Nat.zero_le _, Nat.zero_le _⟩ (z_i ?_)
    have hwf : zFst (fun b => (bs 0).2.testBit b && (zBu a b).testBit f) 0 (zNb a) = aWf a f := by unfold aWf; rw [hs.1]
    rcases zFst_or (fun b => (zFw a 0).2.testBit b && (zBu a b).testBit f) (zNb a) 0 with hwn | ⟨c, hc, hce, -⟩
    · skip
      have hwn : aWf a f = -1 := hwn
      refine zW.top (y := iZ (-1)) (by rw [hwf, hwn]) ?_
      refine z_callV C (c_X2_ownerOf_no l g q a bs wb pd gw ha) (cwV 1 C.ts gX2_land_X2_ownerOf rfl rfl rfl (by decide +kernel) ⟨Nat.le_of_ble_eq_true rfl, Nat.le_of_ble_eq_true rfl⟩) wB_o rfl rfl rfl (Nat.le_of_ble_eq_true rfl) dX2_land_49 ⟨Nat.zero_le _, Nat.zero_le _⟩ (z_i ?_)
      exact z_iretP C dX2_land_52 (by unfold aLand; rw [hwn]; rfl) rfl
    · skip
      rw [Nat.zero_add] at hc
      have hwn : aWf a f = (c : Int) := hce
      refine zW.top (y := nI c) (by rw [hwf, hwn]; rfl) ?_
      refine z_callV C (c_X2_ownerOf l g q a bs wb pd gw ha c hc) (cwV 1 C.ts gX2_land_X2_ownerOf rfl rfl rfl (by decide +kernel) ⟨Nat.le_of_ble_eq_true rfl, Nat.le_of_ble_eq_true rfl⟩) wB_o rfl rfl rfl (Nat.le_of_ble_eq_true rfl) dX2_land_49 ⟨Nat.zero_le _, Nat.zero_le _⟩ (z_i ?_)
      exact z_iretP C dX2_land_52 (by unfold aLand; rw [hwn]; rw [if_neg (by omega)]; rfl) rfl
  · skip
    refine z_lookup C 53 dX2_land_11 (by decide) (off := 42) (by decide) (by decide) ?_
    refine z_aload_n C dX2_land_53 0 rfl ?_
    refine z_iload_n C dX2_land_54 1 rfl ?_
    refine z_callV C (c_X2_countingBidsWith l g q a bs wb pd gw ha f (by omega)) (cwV 1 C.ts gX2_land_X2_countingBidsWith rfl rfl rfl (by decide +kernel) ⟨Nat.le_of_ble_eq_true rfl, Nat.le_of_ble_eq_true rfl⟩) wB_o rfl rfl rfl (Nat.le_of_ble_eq_true rfl) dX2_land_55 ⟨Nat.zero_le _, Nat.zero_le _⟩ (z_i ?_)
    exact z_iretP C dX2_land_58 rfl rfl
theorem inX2_count_X0 : ∀ w ∈ wsX00, w ∈ wsX2_count := fun w h => List.mem_cons_of_mem _ (List.mem_append_left _ (List.mem_append_right _ (h)))
theorem inX2_count_X1 : ∀ w ∈ wsX10, w ∈ wsX2_count := fun w h => List.mem_cons_of_mem _ (List.mem_append_left _ (List.mem_append_left _ (List.mem_append_right _ (h))))
theorem inX2_count_X2 : ∀ w ∈ wsX20, w ∈ wsX2_count := fun w h => List.mem_cons_of_mem _ (List.mem_append_left _ (List.mem_append_left _ (List.mem_append_left _ (List.mem_append_right _ (h)))))
set_option maxRecDepth 100000 in
set_option maxHeartbeats 4000000 in
theorem c_X2_count (l : Launch) (g : zG) (q : Nat → Nat) (a : zS) (bs : Nat → Int × Nat) (wb pd gw : Nat → Nat → Int) (ha : zOk a) (hs : zSet a bs wb pd gw 0 0) (w : Nat) (hw : w ≤ 8) : zM g l yX2_count wsX2_count { frames := 2, cells := 0, slots := 0, locals := 45 } [.ref (q 0), .int (nI w)] (wB g q a (zG0 a) bs wb pd gw) (zPi (iZ (aCount a w)) (wB g q a (zG0 a) bs wb pd gw)) 0 0 := by
  refine zM.of (cc := cX2_count) (nL := 2) (ret := (some .int)) (lv := [(0, .ref (q 0)), (1, .int (nI w))]) (by decide) rfl (Nat.le_of_ble_eq_true rfl) rfl ?_
  intro E C0 hi
  have C : zC g E cX2_count RX2 wsX2_count 2 (some .int) := C0
  obtain ⟨hnf, hnd, hnb, hou, hrs, hbd⟩ := id ha
  have hxo := zFw_ok ha 0
  refine z_iload_n C dX2_count_0 1 rfl ?_
  refine z_bipush C (nI 8) dX2_count_1 (by decide) ?_
  refine z_callS C (c_X2_requireWhat l g (wB g q a (zG0 a) bs wb pd gw) w 8 (by omega) (by omega)) (va_cwS 2 C.ts gX2_count_X2_requireWhat rfl rfl rfl (by decide +kernel) ⟨Nat.le_of_ble_eq_true rfl, Nat.le_of_ble_eq_true rfl⟩) rfl rfl (Nat.le_of_ble_eq_true rfl) dX2_count_3 ⟨Nat.zero_le _, Nat.zero_le _⟩ (z_v ?_)
  refine z_iload_n C dX2_count_6 1 rfl ?_
  rcases (show w = 0 ∨ w = 1 ∨ w = 2 ∨ w = 3 ∨ w = 4 ∨ w = 5 ∨ w = 6 ∨ w = 7 ∨ w = 8 by omega) with rfl | rfl | rfl | rfl | rfl | rfl | rfl | rfl | rfl
  · skip
    refine z_tabIn C 52 dX2_count_7 (by decide) (by decide) (off := 45) (by decide) (by decide) ?_
    refine z_aload_n C dX2_count_52 0 rfl ?_
    refine z_get C inX2_count_X2 0 wB_o rfl 1 (by decide) (C.w 1 rfl) rfl dX2_count_53 ?_
    exact z_iretP C dX2_count_56 rfl rfl
  · skip
    refine z_tabIn C 57 dX2_count_7 (by decide) (by decide) (off := 50) (by decide) (by decide) ?_
    refine z_aload_n C dX2_count_57 0 rfl ?_
    refine z_get C inX2_count_X2 0 wB_o rfl 3 (by decide) (C.w 2 rfl) rfl dX2_count_58 ?_
    exact z_iretP C dX2_count_61 rfl rfl
  · skip
    refine z_tabIn C 62 dX2_count_7 (by decide) (by decide) (off := 55) (by decide) (by decide) ?_
    refine z_aload_n C dX2_count_62 0 rfl ?_
    refine z_get C inX2_count_X2 0 wB_o rfl 10 (by decide) (C.w 3 rfl) rfl dX2_count_63 ?_
    exact z_iretP C dX2_count_66 rfl rfl
  · skip
    refine z_tabIn C 67 dX2_count_7 (by decide) (by decide) (off := 60) (by decide) (by decide) ?_
    refine z_aload_n C dX2_count_67 0 rfl ?_
    refine z_get C inX2_count_X2 0 wB_o rfl 11 (by decide) (C.w 4 rfl) rfl dX2_count_68 ?_
    refine z_getN C inX2_count_X1 (12 + 0) (wB_sl (z := 0) (by decide)) rfl 0 (by decide) 2 rfl rfl dX2_count_71 ?_
    refine z_getN C inX2_count_X0 (9 + 0) (wB_bs (z := 0) (by decide)) rfl 0 (by decide) 0 rfl rfl dX2_count_74 ?_
    exact z_iretP C dX2_count_77 (by rw [hs.1]; rfl) rfl
  · skip
    refine z_tabIn C 78 dX2_count_7 (by decide) (by decide) (off := 71) (by decide) (by decide) ?_
    refine z_aload_n C dX2_count_78 0 rfl ?_
    refine z_get C inX2_count_X2 0 wB_o rfl 11 (by decide) (C.w 4 rfl) rfl dX2_count_79 ?_
    refine z_getN C inX2_count_X1 (12 + 0) (wB_sl (z := 0) (by decide)) rfl 0 (by decide) 2 rfl rfl dX2_count_82 ?_
    refine z_getN C inX2_count_X0 (9 + 0) (wB_bs (z := 0) (by decide)) rfl 1 (by decide) 1 rfl rfl dX2_count_85 ?_
    refine z_callS C (c_J6_bitCount_0f7a4 l g (wB g q a (zG0 a) bs wb pd gw) ((bs 0).2) (by rw [hs.1]; exact hxo.2.2)) (va_cwS 1 C.ts gX2_count_J6_bitCount_0f7a4 rfl rfl rfl (by decide +kernel) ⟨Nat.le_of_ble_eq_true rfl, Nat.le_of_ble_eq_true rfl⟩) rfl rfl (Nat.le_of_ble_eq_true rfl) dX2_count_88 ⟨Nat.zero_le _, Nat.zero_le _⟩ (z_i ?_)
    exact z_iretP C dX2_count_91 (by rw [hs.1]; rfl) rfl
  · skip
    refine z_tabIn C 92 dX2_count_7 (by decide) (by decide) (off := 85) (by decide) (by decide) ?_
    refine z_aload_n C dX2_count_92 0 rfl ?_
    refine z_callV C (c_X2_soldFields l g q a bs wb pd gw ha) (cwV 0 C.ts gX2_count_X2_soldFields rfl rfl rfl (by decide +kernel) ⟨Nat.le_of_ble_eq_true rfl, Nat.le_of_ble_eq_true rfl⟩) wB_o rfl rfl rfl (Nat.le_of_ble_eq_true rfl) dX2_count_93 ⟨Nat.zero_le _, Nat.zero_le _⟩ (z_i ?_)
    refine z_callS C (c_J6_bitCount_0f7a4 l g (wB g q a (zG0 a) bs wb pd gw) (zOrs (fun b => if (bs 0).2.testBit b = true then zBu a b else 0) (zNb a)) (by have := aSold_lt ha; rw [hs.1]; exact Nat.lt_trans this (by decide))) (va_cwS 1 C.ts gX2_count_J6_bitCount_0f7a4 rfl rfl rfl (by decide +kernel) ⟨Nat.le_of_ble_eq_true rfl, Nat.le_of_ble_eq_true rfl⟩) rfl rfl (Nat.le_of_ble_eq_true rfl) dX2_count_96 ⟨Nat.zero_le _, Nat.zero_le _⟩ (z_i ?_)
    exact z_iretP C dX2_count_99 (by rw [hs.1]; rfl) rfl
  · skip
    refine z_tabIn C 100 dX2_count_7 (by decide) (by decide) (off := 93) (by decide) (by decide) ?_
    refine z_aload_n C dX2_count_100 0 rfl ?_
    refine z_get C inX2_count_X2 0 wB_o rfl 11 (by decide) (C.w 4 rfl) rfl dX2_count_101 ?_
    refine z_callVN C (c_X1_totalPaid l g q a bs wb pd gw 0 (by decide)) ⟨va_cnB 0 C.ts ggX2_count_X1_totalPaid rfl rfl rfl (C.K.2.1 _ (List.mem_of_getElem? (i := 14) rfl)) (C.w 29 rfl) (by decide +kernel) ⟨Nat.le_of_ble_eq_true rfl, Nat.le_of_ble_eq_true rfl⟩, (C.w 28 rfl), (C.w 30 rfl)⟩ (wB_sl (z := 0) (by decide)) rfl rfl rfl (Nat.le_of_ble_eq_true rfl) dX2_count_104 ⟨Nat.zero_le _, Nat.zero_le _⟩ (z_i ?_)
    exact z_iretP C dX2_count_107 (congrArg iZ (zSi_cong 5 (fun d hd => hs.pd hd))) rfl
  · skip
    refine z_tabIn C 108 dX2_count_7 (by decide) (by decide) (off := 101) (by decide) (by decide) ?_
    refine z_aload_n C dX2_count_108 0 rfl ?_
    refine z_callV C (c_X2_totalProfit l g q a bs wb pd gw ha hs.wor) (cwV 0 C.ts gX2_count_X2_totalProfit rfl rfl rfl (by decide +kernel) ⟨Nat.le_of_ble_eq_true rfl, Nat.le_of_ble_eq_true rfl⟩) wB_o rfl rfl rfl (Nat.le_of_ble_eq_true rfl) dX2_count_109 ⟨Nat.zero_le _, Nat.zero_le _⟩ (z_i ?_)
    exact z_iretP C dX2_count_112 (congrArg iZ (zSi_cong _ (fun d hd => by show zPfv a (wb 0 d) (pd 0 d) = aProf a d; rw [hs.wb (by omega), hs.pd (by omega)]; rfl))) rfl
  · skip
    refine z_tabOut C 113 dX2_count_7 (by decide) (by decide) ?_
    refine z_aload_n C dX2_count_113 0 rfl ?_
    refine z_callV C (c_X2_winningPrices l g q a bs wb pd gw ha) (cwV 0 C.ts gX2_count_X2_winningPrices rfl rfl rfl (by decide +kernel) ⟨Nat.le_of_ble_eq_true rfl, Nat.le_of_ble_eq_true rfl⟩) wB_o rfl rfl rfl (Nat.le_of_ble_eq_true rfl) dX2_count_114 ⟨Nat.zero_le _, Nat.zero_le _⟩ (z_i ?_)
    exact z_iretP C dX2_count_117 (by rw [hs.1]; rfl) rfl
theorem inX2_alone_X2 : ∀ w ∈ wsX20, w ∈ wsX2_alone := fun w h => List.mem_cons_of_mem _ (List.mem_append_left _ (List.mem_append_right _ (h)))
set_option maxRecDepth 100000 in
set_option maxHeartbeats 4000000 in
theorem c_X2_alone (l : Launch) (g : zG) (q : Nat → Nat) (a : zS) (bs : Nat → Int × Nat) (wb pd gw : Nat → Nat → Int) (ha : zOk a) (hs : zSet a bs wb pd gw 0 0) (f w : Nat) (hf : f < zNf a) (hw : w ≤ 2) : zM g l yX2_alone wsX2_alone { frames := 3, cells := 0, slots := 0, locals := 69 } [.ref (q 0), .int (nI f), .int (nI w)] (wB g q a (zG0 a) bs wb pd gw) (zPi (iZ (aAlone a f w)) (wB g q a (zG0 a) bs wb pd gw)) 0 0 := by
  refine zM.of (cc := cX2_alone) (nL := 4) (ret := (some .int)) (lv := [(0, .ref (q 0)), (1, .int (nI f)), (2, .int (nI w))]) (by decide) rfl (Nat.le_of_ble_eq_true rfl) rfl ?_
  intro E C0 hi
  have C : zC g E cX2_alone RX2 wsX2_alone 4 (some .int) := C0
  obtain ⟨hnf, hnd, hnb, hou, hrs, hbd⟩ := id ha
  have hxo := zFw_ok ha 0
  refine z_aload_n C dX2_alone_0 0 rfl ?_
  refine z_iload_n C dX2_alone_1 1 rfl ?_
  refine z_callV C (c_X2_requireField l g q a bs wb pd gw ha f (by omega)) (cwV 1 C.ts gX2_alone_X2_requireField rfl rfl rfl (by decide +kernel) ⟨Nat.le_of_ble_eq_true rfl, Nat.le_of_ble_eq_true rfl⟩) wB_o rfl rfl rfl (Nat.le_of_ble_eq_true rfl) dX2_alone_2 ⟨Nat.zero_le _, Nat.zero_le _⟩ (z_v ?_)
  refine z_iload_n C dX2_alone_5 2 rfl ?_
  refine z_iconst C (nI 2) dX2_alone_6 (by decide) ?_
  refine z_callS C (c_X2_requireWhat l g (wB g q a (zG0 a) bs wb pd gw) w 2 (by omega) (by omega)) (va_cwS 2 C.ts gX2_alone_X2_requireWhat rfl rfl rfl (by decide +kernel) ⟨Nat.le_of_ble_eq_true rfl, Nat.le_of_ble_eq_true rfl⟩) rfl rfl (Nat.le_of_ble_eq_true rfl) dX2_alone_7 ⟨Nat.zero_le _, Nat.zero_le _⟩ (z_v ?_)
  refine z_aload_n C dX2_alone_10 0 rfl ?_
  refine z_iload_n C dX2_alone_11 1 rfl ?_
  refine z_iconst C (iZ (-1)) dX2_alone_12 (by decide) ?_
  refine z_callV C (c_X2_highestAlone l g q a bs wb pd gw ha f (by omega) (-1) (by omega)) (cwV 2 C.ts gX2_alone_X2_highestAlone rfl rfl rfl (by decide +kernel) ⟨Nat.le_of_ble_eq_true rfl, Nat.le_of_ble_eq_true rfl⟩) wB_o rfl rfl rfl (Nat.le_of_ble_eq_true rfl) dX2_alone_13 ⟨Nat.zero_le _, Nat.zero_le _⟩ (z_i ?_)
  rcases zHi_or a (zCo a f (-1)) (zNb a) with hwn | ⟨c, hc, hce, -⟩
  · skip
    have hwn : aHi a f (-1) = -1 := hwn
    refine zW.top (y := iZ (-1)) (congrArg iZ hwn) ?_
    refine z_istore_n C dX2_alone_16 (by decide) [(3, .int (iZ (-1))), (0, .ref (q 0)), (1, .int (nI f)), (2, .int (nI w))] rfl ?_
    refine z_iload_n C dX2_alone_17 0 rfl ?_
    refine z_iconst C (iZ (-1)) dX2_alone_18 (by decide) ?_
    refine z_icmp_ne C 24 dX2_alone_19 (by decide) (zeq_ZZ (x := (-1)) (y := (-1)) (by unfold zB31; omega) (by unfold zB31; omega)) (fun h9 => absurd (by decide) h9) (fun c_19 => ?_)
    refine z_iconst C (iZ (-1)) dX2_alone_22 (by decide) ?_
    exact z_iretP C dX2_alone_23 (by unfold aAlone; rw [if_pos hwn]) rfl
  · skip
    have hwn : aHi a f (-1) = (c : Int) := hce
    refine zW.top (y := nI c) (congrArg iZ hwn) ?_
    refine z_istore_n C dX2_alone_16 (by decide) [(3, .int (nI c)), (0, .ref (q 0)), (1, .int (nI f)), (2, .int (nI w))] rfl ?_
    refine z_iload_n C dX2_alone_17 0 rfl ?_
    refine z_iconst C (iZ (-1)) dX2_alone_18 (by decide) ?_
    refine z_icmp_ne C 24 dX2_alone_19 (by decide) (zeq_ZZ (x := ((c : Nat) : Int)) (y := (-1)) (by unfold zB31; omega) (by unfold zB31; omega)) (fun c_19 => ?_) (fun h9 => absurd h9 (by omega))
    refine z_iload_n C dX2_alone_24 3 rfl ?_
    rcases (show w = 0 ∨ w = 1 ∨ w = 2 by omega) with rfl | rfl | rfl
    · skip
      refine z_lookup C 52 dX2_alone_25 (by decide) (off := 27) (by decide) (by decide) ?_
      refine z_iload_n C dX2_alone_52 0 rfl ?_
      exact z_iretP C dX2_alone_53 (by unfold aAlone; rw [hwn, if_neg (by omega)]; rfl) rfl
    · skip
      refine z_lookup C 54 dX2_alone_25 (by decide) (off := 29) (by decide) (by decide) ?_
      refine z_aload_n C dX2_alone_54 1 rfl ?_
      refine z_get C inX2_alone_X2 0 wB_o rfl 4 (by decide) (C.w 1 rfl) rfl dX2_alone_55 ?_
      refine z_iload_n C dX2_alone_58 0 rfl ?_
      refine z_ialdN C 3 wB_ow (by omega) (by decide) dX2_alone_59 (v := nI (zOw a c)) rfl ?_
      have f_59b := (ha.ow (b := c) (by omega))
      exact z_iretP C dX2_alone_60 (by unfold aAlone; rw [hwn, if_neg (by omega)]; rfl) rfl
    · skip
      refine z_lookup C 61 dX2_alone_25 (by decide) (off := 36) (by decide) (by decide) ?_
      rcases zHi_or a (zCo a f (zOw a c : Int)) (zNb a) with hsn | ⟨c2, hc2, hsn, -⟩
      · skip
        refine z_aload_n C dX2_alone_61 1 rfl ?_
        refine z_iload_n C dX2_alone_62 2 rfl ?_
        refine z_iload_n C dX2_alone_63 0 rfl ?_
        refine z_callV C (c_X2_secondPrice_no l g q a bs wb pd gw ha f (by omega) c (by omega) hsn) (cwV 2 C.ts gX2_alone_X2_secondPrice rfl rfl rfl (by decide +kernel) ⟨Nat.le_of_ble_eq_true rfl, Nat.le_of_ble_eq_true rfl⟩) wB_o rfl rfl rfl (Nat.le_of_ble_eq_true rfl) dX2_alone_64 ⟨Nat.zero_le _, Nat.zero_le _⟩ (z_i ?_)
        exact z_iretP C dX2_alone_67 (by unfold aAlone; rw [hwn, if_neg (by omega)]; show _ = iZ (if aHi a f (zOw a ((c : Int)).toNat : Int) = -1 then _ else _); rw [if_pos (show aHi a f (zOw a ((c : Int)).toNat : Int) = -1 from hsn)]; rfl) rfl
      · skip
        refine z_aload_n C dX2_alone_61 1 rfl ?_
        refine z_iload_n C dX2_alone_62 2 rfl ?_
        refine z_iload_n C dX2_alone_63 0 rfl ?_
        refine z_callV C (c_X2_secondPrice_b l g q a bs wb pd gw ha f (by omega) c (by omega) c2 (by omega) hsn) (cwV 2 C.ts gX2_alone_X2_secondPrice rfl rfl rfl (by decide +kernel) ⟨Nat.le_of_ble_eq_true rfl, Nat.le_of_ble_eq_true rfl⟩) wB_o rfl rfl rfl (Nat.le_of_ble_eq_true rfl) dX2_alone_64 ⟨Nat.zero_le _, Nat.zero_le _⟩ (z_i ?_)
        exact z_iretP C dX2_alone_67 (by unfold aAlone; rw [hwn, if_neg (by omega)]; show _ = iZ (if aHi a f (zOw a ((c : Int)).toNat : Int) = -1 then _ else (zPr a (aHi a f (zOw a ((c : Int)).toNat : Int)).toNat : Int)); rw [show aHi a f (zOw a ((c : Int)).toNat : Int) = (c2 : Int) from hsn, if_neg (by omega)]; rfl) rfl
