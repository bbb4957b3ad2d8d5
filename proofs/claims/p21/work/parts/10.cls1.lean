/-- Integer.bitCount, as it counts -/
def zbc1 (x : Int32) : Int32 := x - (((x.toUInt32 >>> ((nI 1).toUInt32 &&& Int32.toUInt32 31)).toInt32) &&& (1431655765))
def zbc2 (x : Int32) : Int32 := (x &&& (858993459)) + (((x.toUInt32 >>> ((nI 2).toUInt32 &&& Int32.toUInt32 31)).toInt32) &&& (858993459))
def zbc3 (x : Int32) : Int32 := (x + ((x.toUInt32 >>> ((nI 4).toUInt32 &&& Int32.toUInt32 31)).toInt32)) &&& (252645135)
def zbc4 (x : Int32) : Int32 := x + ((x.toUInt32 >>> ((nI 8).toUInt32 &&& Int32.toUInt32 31)).toInt32)
def zbc5 (x : Int32) : Int32 := x + ((x.toUInt32 >>> ((nI 16).toUInt32 &&& Int32.toUInt32 31)).toInt32)
def zbc (x : Int32) : Int32 := zbc5 (zbc4 (zbc3 (zbc2 (zbc1 x)))) &&& nI 63
theorem zbc_all : (List.range 4096).all (fun n => decide (zbc (nI n) = nI (zPop n 12))) = true := by decide +kernel
theorem zbc_ok (n : Nat) (hn : n < 4096) : zbc (nI n) = nI (zPop n 12) := of_decide_eq_true (List.all_eq_true.mp zbc_all n (List.mem_range.mpr hn))
theorem zbc_raw (n : Nat) (hn : n < 4096) {v : Int32} (h : v = zbc (nI n)) : v = nI (zPop n 12) := h.trans (zbc_ok n hn)
set_option maxRecDepth 100000 in
set_option maxHeartbeats 4000000 in
theorem c_J6_bitCount_0f7a4  (l : Launch) (g : zG) (w : va_W) (n : Nat) (hn : n < 4096) : zM g l yJ6_bitCount_0f7a4 wsJ6_bitCount_0f7a4 { frames := 0, cells := 0, slots := 0, locals := 0 } [.int (nI n)] (w) (zPi (nI (zPop n 12)) (w)) 0 0 := by
  refine zM.of (cc := cJ6_bitCount_0f7a4) (nL := 1) (ret := (some .int)) (lv := [(0, .int (nI n))]) (by decide) rfl (Nat.le_of_ble_eq_true rfl) rfl ?_
  intro E C0 hi
  have C : zC g E cJ6_bitCount_0f7a4 RJ6 wsJ6_bitCount_0f7a4 1 (some .int) := C0
  refine z_iload_n C dJ6_bitCount_0f7a4_0 0 rfl ?_
  refine z_iload_n C dJ6_bitCount_0f7a4_1 0 rfl ?_
  refine z_iconst C (nI 1) dJ6_bitCount_0f7a4_2 (by decide) ?_
  refine z_iushr C dJ6_bitCount_0f7a4_3 (v := ((nI n).toUInt32 >>> ((nI 1).toUInt32 &&& Int32.toUInt32 31)).toInt32) rfl ?_
  refine z_ldcw C (1431655765) (C.w 1 rfl) dJ6_bitCount_0f7a4_4 ?_
  refine z_iand C dJ6_bitCount_0f7a4_7 (v := ((((nI n).toUInt32 >>> ((nI 1).toUInt32 &&& Int32.toUInt32 31)).toInt32) &&& (1431655765))) rfl ?_
  refine z_isub C dJ6_bitCount_0f7a4_8 (v := ((nI n) - ((((nI n).toUInt32 >>> ((nI 1).toUInt32 &&& Int32.toUInt32 31)).toInt32) &&& (1431655765)))) rfl ?_
  obtain ⟨x_9, e_9⟩ : ∃ y : Int32, y = ((nI n) - ((((nI n).toUInt32 >>> ((nI 1).toUInt32 &&& Int32.toUInt32 31)).toInt32) &&& (1431655765))) := ⟨_, rfl⟩
  refine zW.top e_9.symm ?_
  refine z_istore_n C dJ6_bitCount_0f7a4_9 (by decide) [(0, .int x_9)] rfl ?_
  refine z_iload_n C dJ6_bitCount_0f7a4_10 0 rfl ?_
  refine z_ldcw C (858993459) (C.w 2 rfl) dJ6_bitCount_0f7a4_11 ?_
  refine z_iand C dJ6_bitCount_0f7a4_14 (v := (x_9 &&& (858993459))) rfl ?_
  refine z_iload_n C dJ6_bitCount_0f7a4_15 0 rfl ?_
  refine z_iconst C (nI 2) dJ6_bitCount_0f7a4_16 (by decide) ?_
  refine z_iushr C dJ6_bitCount_0f7a4_17 (v := (x_9.toUInt32 >>> ((nI 2).toUInt32 &&& Int32.toUInt32 31)).toInt32) rfl ?_
  refine z_ldcw C (858993459) (C.w 2 rfl) dJ6_bitCount_0f7a4_18 ?_
  refine z_iand C dJ6_bitCount_0f7a4_21 (v := (((x_9.toUInt32 >>> ((nI 2).toUInt32 &&& Int32.toUInt32 31)).toInt32) &&& (858993459))) rfl ?_
  refine z_iadd C dJ6_bitCount_0f7a4_22 (v := ((x_9 &&& (858993459)) + (((x_9.toUInt32 >>> ((nI 2).toUInt32 &&& Int32.toUInt32 31)).toInt32) &&& (858993459)))) rfl ?_
  obtain ⟨x_23, e_23⟩ : ∃ y : Int32, y = ((x_9 &&& (858993459)) + (((x_9.toUInt32 >>> ((nI 2).toUInt32 &&& Int32.toUInt32 31)).toInt32) &&& (858993459))) := ⟨_, rfl⟩
  refine zW.top e_23.symm ?_
  refine z_istore_n C dJ6_bitCount_0f7a4_23 (by decide) [(0, .int x_23)] rfl ?_
  refine z_iload_n C dJ6_bitCount_0f7a4_24 0 rfl ?_
  refine z_iload_n C dJ6_bitCount_0f7a4_25 0 rfl ?_
  refine z_iconst C (nI 4) dJ6_bitCount_0f7a4_26 (by decide) ?_
  refine z_iushr C dJ6_bitCount_0f7a4_27 (v := (x_23.toUInt32 >>> ((nI 4).toUInt32 &&& Int32.toUInt32 31)).toInt32) rfl ?_
  refine z_iadd C dJ6_bitCount_0f7a4_28 (v := (x_23 + ((x_23.toUInt32 >>> ((nI 4).toUInt32 &&& Int32.toUInt32 31)).toInt32))) rfl ?_
  refine z_ldcw C (252645135) (C.w 3 rfl) dJ6_bitCount_0f7a4_29 ?_
  refine z_iand C dJ6_bitCount_0f7a4_32 (v := ((x_23 + ((x_23.toUInt32 >>> ((nI 4).toUInt32 &&& Int32.toUInt32 31)).toInt32)) &&& (252645135))) rfl ?_
  obtain ⟨x_33, e_33⟩ : ∃ y : Int32, y = ((x_23 + ((x_23.toUInt32 >>> ((nI 4).toUInt32 &&& Int32.toUInt32 31)).toInt32)) &&& (252645135)) := ⟨_, rfl⟩
  refine zW.top e_33.symm ?_
  refine z_istore_n C dJ6_bitCount_0f7a4_33 (by decide) [(0, .int x_33)] rfl ?_
  refine z_iload_n C dJ6_bitCount_0f7a4_34 0 rfl ?_
  refine z_iload_n C dJ6_bitCount_0f7a4_35 0 rfl ?_
  refine z_bipush C (nI 8) dJ6_bitCount_0f7a4_36 (by decide) ?_
  refine z_iushr C dJ6_bitCount_0f7a4_38 (v := (x_33.toUInt32 >>> ((nI 8).toUInt32 &&& Int32.toUInt32 31)).toInt32) rfl ?_
  refine z_iadd C dJ6_bitCount_0f7a4_39 (v := (x_33 + ((x_33.toUInt32 >>> ((nI 8).toUInt32 &&& Int32.toUInt32 31)).toInt32))) rfl ?_
  obtain ⟨x_40, e_40⟩ : ∃ y : Int32, y = (x_33 + ((x_33.toUInt32 >>> ((nI 8).toUInt32 &&& Int32.toUInt32 31)).toInt32)) := ⟨_, rfl⟩
  refine zW.top e_40.symm ?_
  refine z_istore_n C dJ6_bitCount_0f7a4_40 (by decide) [(0, .int x_40)] rfl ?_
  refine z_iload_n C dJ6_bitCount_0f7a4_41 0 rfl ?_
  refine z_iload_n C dJ6_bitCount_0f7a4_42 0 rfl ?_
  refine z_bipush C (nI 16) dJ6_bitCount_0f7a4_43 (by decide) ?_
  refine z_iushr C dJ6_bitCount_0f7a4_45 (v := (x_40.toUInt32 >>> ((nI 16).toUInt32 &&& Int32.toUInt32 31)).toInt32) rfl ?_
  refine z_iadd C dJ6_bitCount_0f7a4_46 (v := (x_40 + ((x_40.toUInt32 >>> ((nI 16).toUInt32 &&& Int32.toUInt32 31)).toInt32))) rfl ?_
  obtain ⟨x_47, e_47⟩ : ∃ y : Int32, y = (x_40 + ((x_40.toUInt32 >>> ((nI 16).toUInt32 &&& Int32.toUInt32 31)).toInt32)) := ⟨_, rfl⟩
  refine zW.top e_47.symm ?_
  refine z_istore_n C dJ6_bitCount_0f7a4_47 (by decide) [(0, .int x_47)] rfl ?_
  refine z_iload_n C dJ6_bitCount_0f7a4_48 0 rfl ?_
  refine z_bipush C (nI 63) dJ6_bitCount_0f7a4_49 (by decide) ?_
  refine z_iand C dJ6_bitCount_0f7a4_51 (v := (x_47 &&& (nI 63))) rfl ?_
  exact z_iretP C dJ6_bitCount_0f7a4_52 (by subst e_9 e_23 e_33 e_40 e_47; exact zbc_ok n hn) rfl
set_option maxRecDepth 100000 in
set_option maxHeartbeats 4000000 in
theorem c_X2_hasField  (l : Launch) (g : zG) (w : va_W) (m f : Nat) (hf : f < 31) : zM g l yX2_hasField wsX2_hasField { frames := 0, cells := 0, slots := 0, locals := 0 } [.int (nI m), .int (nI f)] (w) (zPi (bI (m.testBit f)) (w)) 0 0 := by
  refine zM.of (cc := cX2_hasField) (nL := 2) (ret := (some .boolean)) (lv := [(0, .int (nI m)), (1, .int (nI f))]) (by decide) rfl (Nat.le_of_ble_eq_true rfl) rfl ?_
  intro E C0 hi
  have C : zC g E cX2_hasField RX2 wsX2_hasField 2 (some .boolean) := C0
  refine z_iload_n C dX2_hasField_0 0 rfl ?_
  refine z_iconst C (nI 1) dX2_hasField_1 (by decide) ?_
  refine z_iload_n C dX2_hasField_2 1 rfl ?_
  refine z_ishl C dX2_hasField_3 (v := nI (2 ^ f)) (zshl_1N (by omega)) ?_
  refine z_iand C dX2_hasField_4 (v := nI (m &&& (2 ^ f))) (zand_NN m (2 ^ f)) ?_
  refine z_if_eq C 12 dX2_hasField_5 (by decide) (zbit_0 (by omega)) (fun c_5 => ?_) (fun c_5 => ?_)
  · skip
    refine z_iconst C (nI 0) dX2_hasField_12 (by decide) ?_
    exact z_zretP C dX2_hasField_13 (by simp_all [bI, zn0, zn1]) rfl
  · skip
    refine z_iconst C (nI 1) dX2_hasField_8 (by decide) ?_
    refine z_goto C 13 dX2_hasField_9 (by decide) ?_
    exact z_zretP C dX2_hasField_13 (by simp_all [bI, zn0, zn1]) rfl
theorem inX0_has_X0 : ∀ w ∈ wsX00, w ∈ wsX0_has := fun w h => List.mem_cons_of_mem _ (List.mem_append_right _ (h))
set_option maxRecDepth 100000 in
set_option maxHeartbeats 4000000 in
theorem c_X0_has (l : Launch) (g : zG) (q : Nat → Nat) (a : zS) (bs : Nat → Int × Nat) (wb pd gw : Nat → Nat → Int) (z : Nat) (hz : z < 3) (b : Nat) (hb : b < 31) : zM g l yX0_has wsX0_has { frames := 0, cells := 0, slots := 0, locals := 0 } [.ref (q (9 + z)), .int (nI b)] (wB g q a (zG0 a) bs wb pd gw) (zPi (bI ((bs z).2.testBit b)) (wB g q a (zG0 a) bs wb pd gw)) 0 0 := by
  refine zM.of (cc := cX0_has) (nL := 2) (ret := (some .boolean)) (lv := [(0, .ref (q (9 + z))), (1, .int (nI b))]) (by decide) rfl (Nat.le_of_ble_eq_true rfl) rfl ?_
  intro E C0 hi
  have C : zC g E cX0_has RX0 wsX0_has 2 (some .boolean) := C0
  refine z_aload_n C dX0_has_0 0 rfl ?_
  refine z_get C inX0_has_X0 (9 + z) (wB_bs (z := z) (by omega)) rfl 1 (by decide) (C.w 1 rfl) rfl dX0_has_1 ?_
  refine z_iconst C (nI 1) dX0_has_4 (by decide) ?_
  refine z_iload_n C dX0_has_5 1 rfl ?_
  refine z_ishl C dX0_has_6 (v := nI (2 ^ b)) (zshl_1N (by omega)) ?_
  refine z_iand C dX0_has_7 (v := nI (((bs z).2) &&& (2 ^ b))) (zand_NN ((bs z).2) (2 ^ b)) ?_
  refine z_if_eq C 15 dX0_has_8 (by decide) (zbit_0 (by omega)) (fun c_8 => ?_) (fun c_8 => ?_)
  · skip
    refine z_iconst C (nI 0) dX0_has_15 (by decide) ?_
    exact z_zretP C dX0_has_16 (by simp_all [bI, zn0, zn1]) rfl
  · skip
    refine z_iconst C (nI 1) dX0_has_11 (by decide) ?_
    refine z_goto C 16 dX0_has_12 (by decide) ?_
    exact z_zretP C dX0_has_16 (by simp_all [bI, zn0, zn1]) rfl
theorem inX0_clear_X0 : ∀ w ∈ wsX00, w ∈ wsX0_clear := fun w h => List.mem_cons_of_mem _ (List.mem_append_right _ (h))
set_option maxRecDepth 100000 in
set_option maxHeartbeats 4000000 in
theorem c_X0_clear (l : Launch) (g : zG) (q : Nat → Nat) (a : zS) (bs : Nat → Int × Nat) (wb pd gw : Nat → Nat → Int) (z : Nat) (hz : z < 3) : zM g l yX0_clear wsX0_clear { frames := 0, cells := 0, slots := 0, locals := 0 } [.ref (q (9 + z))] (wB g q a (zG0 a) bs wb pd gw) (zPv (wB g q a (zG0 a) (va_up bs z (0, 0)) wb pd gw)) 0 0 := by
  refine zM.of (cc := cX0_clear) (nL := 1) (ret := none) (lv := [(0, .ref (q (9 + z)))]) (by decide) rfl (Nat.le_of_ble_eq_true rfl) rfl ?_
  intro E C0 hi
  have C : zC g E cX0_clear RX0 wsX0_clear 1 none := C0
  refine z_aload_n C dX0_clear_0 0 rfl ?_
  refine z_iconst C (nI 0) dX0_clear_1 (by decide) ?_
  refine z_put C inX0_clear_X0 tyX0_ok nmX0 (9 + z) (wB_bs (z := z) (by omega)) rfl 0 (by decide) (C.w 1 rfl) rfl (tyX0_ok 0 (by decide)) rfl rfl (Nat.le_of_ble_eq_true rfl) dX0_clear_2 (wB_set_bs1 (by omega) 0) ?_
  refine z_aload_n C dX0_clear_5 0 rfl ?_
  refine z_iconst C (nI 0) dX0_clear_6 (by decide) ?_
  refine z_put C inX0_clear_X0 tyX0_ok nmX0 (9 + z) (wB_bs (z := z) (by omega)) rfl 1 (by decide) (C.w 2 rfl) rfl (tyX0_ok 1 (by decide)) rfl rfl (Nat.le_of_ble_eq_true rfl) dX0_clear_7 (wB_set_bs2 (by omega) 0) ?_
  exact z_vretP C dX0_clear_10 (by simp_all [bx_uu, va_up_self])
theorem inX0_isBeatenBy_X0 : ∀ w ∈ wsX00, w ∈ wsX0_isBeatenBy := fun w h => List.mem_cons_of_mem _ (List.mem_append_right _ (h))
set_option maxRecDepth 100000 in
set_option maxHeartbeats 4000000 in
theorem c_X0_isBeatenBy (l : Launch) (g : zG) (q : Nat → Nat) (a : zS) (bs : Nat → Int × Nat) (wb pd gw : Nat → Nat → Int) (z : Nat) (hz : z < 3) (og : Int) (on : Nat) (h1 : zB31 og) (h2 : zB31 (bs z).1) (h3 : on < 4096) (h4 : (bs z).2 < 4096) : zM g l yX0_isBeatenBy wsX0_isBeatenBy { frames := 1, cells := 0, slots := 0, locals := 20 } [.ref (q (9 + z)), .int (iZ og), .int (nI on)] (wB g q a (zG0 a) bs wb pd gw) (zPi (bI (zBt (bs z) (og, on))) (wB g q a (zG0 a) bs wb pd gw)) 0 0 := by
  refine zM.of (cc := cX0_isBeatenBy) (nL := 5) (ret := (some .boolean)) (lv := [(0, .ref (q (9 + z))), (1, .int (iZ og)), (2, .int (nI on))]) (by decide) rfl (Nat.le_of_ble_eq_true rfl) rfl ?_
  intro E C0 hi
  have C : zC g E cX0_isBeatenBy RX0 wsX0_isBeatenBy 5 (some .boolean) := C0
  unfold zB31 at h1 h2
  have p1 := zPop_le on 12
  have p2 := zPop_le (bs z).2 12
  refine z_iload_n C dX0_isBeatenBy_0 1 rfl ?_
  refine z_aload_n C dX0_isBeatenBy_1 0 rfl ?_
  refine z_get C inX0_isBeatenBy_X0 (9 + z) (wB_bs (z := z) (by omega)) rfl 0 (by decide) (C.w 1 rfl) rfl dX0_isBeatenBy_2 ?_
  refine z_icmp_eq C 22 dX0_isBeatenBy_5 (by decide) (zeq_ZZ (x := og) (y := ((bs z).1)) (by unfold zB31; omega) (by unfold zB31; omega)) (fun c_5 => ?_) (fun c_5 => ?_)
  · skip
    refine z_aload_n C dX0_isBeatenBy_22 0 rfl ?_
    refine z_get C inX0_isBeatenBy_X0 (9 + z) (wB_bs (z := z) (by omega)) rfl 1 (by decide) (C.w 2 rfl) rfl dX0_isBeatenBy_23 ?_
    refine z_callS C (c_J6_bitCount_0f7a4 l g (wB g q a (zG0 a) bs wb pd gw) ((bs z).2) (by omega)) (va_cwS 1 C.ts gX0_isBeatenBy_J6_bitCount_0f7a4 rfl rfl rfl (by decide +kernel) ⟨Nat.le_of_ble_eq_true rfl, Nat.le_of_ble_eq_true rfl⟩) rfl rfl (Nat.le_of_ble_eq_true rfl) dX0_isBeatenBy_26 ⟨Nat.zero_le _, Nat.zero_le _⟩ (z_i ?_)
    refine z_istore_n C dX0_isBeatenBy_29 (by decide) [(3, .int (nI (zPop ((bs z).2) 12))), (0, .ref (q (9 + z))), (1, .int (iZ og)), (2, .int (nI on))] rfl ?_
    refine z_iload_n C dX0_isBeatenBy_30 3 rfl ?_
    refine z_callS C (c_J6_bitCount_0f7a4 l g (wB g q a (zG0 a) bs wb pd gw) on (by omega)) (va_cwS 1 C.ts gX0_isBeatenBy_J6_bitCount_0f7a4 rfl rfl rfl (by decide +kernel) ⟨Nat.le_of_ble_eq_true rfl, Nat.le_of_ble_eq_true rfl⟩) rfl rfl (Nat.le_of_ble_eq_true rfl) dX0_isBeatenBy_31 ⟨Nat.zero_le _, Nat.zero_le _⟩ (z_i ?_)
    refine z_istore C dX0_isBeatenBy_34 (by decide) [(4, .int (nI (zPop on 12))), (3, .int (nI (zPop ((bs z).2) 12))), (0, .ref (q (9 + z))), (1, .int (iZ og)), (2, .int (nI on))] rfl ?_
    refine z_iload C dX0_isBeatenBy_36 0 rfl ?_
    refine z_iload_n C dX0_isBeatenBy_38 1 rfl ?_
    refine z_icmp_eq C 54 dX0_isBeatenBy_39 (by decide) (zeq_NN (by omega) (by omega)) (fun c_39 => ?_) (fun c_39 => ?_)
    · skip
      refine z_iload_n C dX0_isBeatenBy_54 4 rfl ?_
      refine z_aload_n C dX0_isBeatenBy_55 2 rfl ?_
      refine z_get C inX0_isBeatenBy_X0 (9 + z) (wB_bs (z := z) (by omega)) rfl 1 (by decide) (C.w 2 rfl) rfl dX0_isBeatenBy_56 ?_
      refine z_icmp_ge C 66 dX0_isBeatenBy_59 (by decide) (zle_NN (by omega) (by omega)) (fun c_59 => ?_) (fun c_59 => ?_)
      · skip
        refine z_iconst C (nI 0) dX0_isBeatenBy_66 (by decide) ?_
        exact z_zretP C dX0_isBeatenBy_67 (by simp_all [bI, zn0, zn1, zBt]) rfl
      · skip
        refine z_iconst C (nI 1) dX0_isBeatenBy_62 (by decide) ?_
        refine z_goto C 67 dX0_isBeatenBy_63 (by decide) ?_
        exact z_zretP C dX0_isBeatenBy_67 (by simp_all [bI, zn0, zn1, zBt]) rfl
    · skip
      refine z_iload C dX0_isBeatenBy_42 0 rfl ?_
      refine z_iload_n C dX0_isBeatenBy_44 1 rfl ?_
      refine z_icmp_le C 52 dX0_isBeatenBy_45 (by decide) (zle_NN (by omega) (by omega)) (fun c_45 => ?_) (fun c_45 => ?_)
      · skip
        refine z_iconst C (nI 0) dX0_isBeatenBy_52 (by decide) ?_
        exact z_zretP C dX0_isBeatenBy_53 (by simp_all [bI, zn0, zn1, zBt]) rfl
      · skip
        refine z_iconst C (nI 1) dX0_isBeatenBy_48 (by decide) ?_
        refine z_goto C 53 dX0_isBeatenBy_49 (by decide) ?_
        exact z_zretP C dX0_isBeatenBy_53 (by simp_all [bI, zn0, zn1, zBt]) rfl
  · skip
    refine z_iload_n C dX0_isBeatenBy_8 1 rfl ?_
    refine z_aload_n C dX0_isBeatenBy_9 0 rfl ?_
    refine z_get C inX0_isBeatenBy_X0 (9 + z) (wB_bs (z := z) (by omega)) rfl 0 (by decide) (C.w 1 rfl) rfl dX0_isBeatenBy_10 ?_
    refine z_icmp_le C 20 dX0_isBeatenBy_13 (by decide) (zle_ZZ (x := og) (y := ((bs z).1)) (by unfold zB31; omega) (by unfold zB31; omega)) (fun c_13 => ?_) (fun c_13 => ?_)
    · skip
      refine z_iconst C (nI 0) dX0_isBeatenBy_20 (by decide) ?_
      exact z_zretP C dX0_isBeatenBy_21 (by simp_all [bI, zn0, zn1, zBt]) rfl
    · skip
      refine z_iconst C (nI 1) dX0_isBeatenBy_16 (by decide) ?_
      refine z_goto C 21 dX0_isBeatenBy_17 (by decide) ?_
      exact z_zretP C dX0_isBeatenBy_21 (by simp_all [bI, zn0, zn1, zBt]) rfl
theorem inX0_consider_X0 : ∀ w ∈ wsX00, w ∈ wsX0_consider := fun w h => List.mem_cons_of_mem _ (List.mem_append_right _ (h))
set_option maxRecDepth 100000 in
set_option maxHeartbeats 4000000 in
theorem c_X0_consider (l : Launch) (g : zG) (q : Nat → Nat) (a : zS) (bs : Nat → Int × Nat) (wb pd gw : Nat → Nat → Int) (z : Nat) (hz : z < 3) (og : Int) (on : Nat) (h1 : zB31 og) (h2 : zB31 (bs z).1) (h3 : on < 4096) (h4 : (bs z).2 < 4096) : zM g l yX0_consider wsX0_consider { frames := 2, cells := 0, slots := 0, locals := 44 } [.ref (q (9 + z)), .int (iZ og), .int (nI on)] (wB g q a (zG0 a) bs wb pd gw) (zPv (wB g q a (zG0 a) (va_up bs z (if zBt (bs z) (og, on) = true then (og, on) else bs z)) wb pd gw)) 0 0 := by
  refine zM.of (cc := cX0_consider) (nL := 3) (ret := none) (lv := [(0, .ref (q (9 + z))), (1, .int (iZ og)), (2, .int (nI on))]) (by decide) rfl (Nat.le_of_ble_eq_true rfl) rfl ?_
  intro E C0 hi
  have C : zC g E cX0_consider RX0 wsX0_consider 3 none := C0
  refine z_aload_n C dX0_consider_0 0 rfl ?_
  refine z_iload_n C dX0_consider_1 1 rfl ?_
  refine z_iload_n C dX0_consider_2 2 rfl ?_
  refine z_callV C (c_X0_isBeatenBy l g q a bs wb pd gw z hz og on h1 h2 h3 h4) (cwV 2 C.ts gX0_consider_X0_isBeatenBy rfl rfl rfl (by decide +kernel) ⟨Nat.le_of_ble_eq_true rfl, Nat.le_of_ble_eq_true rfl⟩) (wB_bs (z := z) (by omega)) rfl rfl rfl (Nat.le_of_ble_eq_true rfl) dX0_consider_3 ⟨Nat.zero_le _, Nat.zero_le _⟩ (z_i ?_)
  refine z_if_eq C 19 dX0_consider_6 (by decide) (zeq_B0 _) (fun c_6 => ?_) (fun c_6 => ?_)
  · skip
    exact z_vretP C dX0_consider_19 (by simp_all [bx_uu, zup_id, va_up_self])
  · skip
    refine z_aload_n C dX0_consider_9 0 rfl ?_
    refine z_iload_n C dX0_consider_10 1 rfl ?_
    refine z_put C inX0_consider_X0 tyX0_ok nmX0 (9 + z) (wB_bs (z := z) (by omega)) rfl 0 (by decide) (C.w 1 rfl) rfl (tyX0_ok 0 (by decide)) rfl rfl (Nat.le_of_ble_eq_true rfl) dX0_consider_11 (wB_set_bs1 (by omega) og) ?_
    refine z_aload_n C dX0_consider_14 0 rfl ?_
    refine z_iload_n C dX0_consider_15 2 rfl ?_
    refine z_put C inX0_consider_X0 tyX0_ok nmX0 (9 + z) (wB_bs (z := z) (by omega)) rfl 1 (by decide) (C.w 2 rfl) rfl (tyX0_ok 1 (by decide)) rfl rfl (Nat.le_of_ble_eq_true rfl) dX0_consider_16 (wB_set_bs2 (by omega) on) ?_
    exact z_vretP C dX0_consider_19 (by simp_all [bx_uu, zup_id, va_up_self])
