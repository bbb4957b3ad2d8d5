theorem zRf_le {a : zS} (ha : zOk a) (k : Nat) : zRf a k ≤ 99 := by
  unfold zRf
  split
  · next h => exact ha.rs h
  · omega
theorem zRes_rf (a : zS) (m : Nat) : zSum (fun f => if m.testBit f = true then zRf a f else 0) (zNf a) = zRes a m := by
  unfold zRes
  refine zSum_cong _ (fun i hi => ?_)
  unfold zRf
  rw [if_pos hi]
theorem zrow_mul (m f x : Nat) : m / 2 ^ f % 2 * x = if m.testBit f = true then x else 0 := by
  rw [zdivmod_bit]
  split
  · omega
  · omega
theorem inX3_reserve_X3 : ∀ w ∈ wsX30, w ∈ wsX3_reserve := fun w h => List.mem_cons_of_mem _ (List.mem_append_right _ (h))
set_option maxRecDepth 100000 in
set_option maxHeartbeats 4000000 in
theorem c_X3_reserve (l : Launch) (g : zG) (q : Nat → Nat) (a : zS) (sm : Int × Nat × Nat) (ha : zOk a) (m : Nat) (hm : m < 256) : zM g l yX3_reserve wsX3_reserve { frames := 0, cells := 0, slots := 0, locals := 0 } [.ref (q 0), .int (nI m)] (wS g q a sm) (zPi (nI (zRes a m)) (wS g q a sm)) 0 0 := by
  refine zM.of (cc := cX3_reserve) (nL := 4) (ret := (some .int)) (lv := [(0, .ref (q 0)), (1, .int (nI m))]) (by decide) rfl (Nat.le_of_ble_eq_true rfl) rfl ?_
  intro E C0 hi
  have C : zC g E cX3_reserve RX3 wsX3_reserve 4 (some .int) := C0
  obtain ⟨hnf, hnd, hnb, hou, hrs, hbd⟩ := id ha
  refine z_iconst C (nI 0) dX3_reserve_0 (by decide) ?_
  refine z_istore_n C dX3_reserve_1 (by decide) [(2, .int (nI 0)), (0, .ref (q 0)), (1, .int (nI m))] rfl ?_
  refine z_iconst C (nI 0) dX3_reserve_2 (by decide) ?_
  refine z_istore_n C dX3_reserve_3 (by decide) [(3, .int (nI 0)), (2, .int (nI 0)), (0, .ref (q 0)), (1, .int (nI m))] rfl ?_
  refine zW.pick (lv' := [(0, .ref (q 0)), (1, .int (nI m)), (2, .int (nI 0)), (3, .int (nI 0))]) [2, 3, 1, 0] rfl ?_
  have hlp4 : ∀ (k i : Nat), i + k = zNf a → zW g l ({ frames := 0, cells := 0, slots := 0, locals := 0 }) E (zMQ g E (zPi (nI (zRes a m)) (wS g q a sm)) 0 0) 4 0 0 (wS g q a sm) [(0, .ref (q 0)), (1, .int (nI m)), (2, .int (nI (zSum (fun f => if m.testBit f = true then zRf a f else 0) i))), (3, .int (nI i))] [] 4 := by
    intro k
    induction k with
    | zero =>
      intro i hik
      refine z_iload_n C dX3_reserve_4 3 rfl ?_
      refine z_aload_n C dX3_reserve_5 0 rfl ?_
      refine z_get C inX3_reserve_X3 0 wS_o rfl 0 (by decide) (C.w 1 rfl) rfl dX3_reserve_6 ?_
      refine z_alenI C 1 wS_rs dX3_reserve_9 ?_
      refine z_icmp_ge C 34 dX3_reserve_10 (by decide) (zle_NN (by omega) (by omega)) (fun c_10 => ?_) (fun h9 => absurd (by omega) h9)
      refine z_iload_n C dX3_reserve_34 2 rfl ?_
      exact z_iretP C dX3_reserve_35 (by rw [show i = zNf a by omega, zRes_rf]) rfl
    | succ k ih4 =>
      intro i hik
      have hdl : m / 2 ^ i ≤ m := Nat.div_le_self _ _
      refine z_iload_n C dX3_reserve_4 3 rfl ?_
      refine z_aload_n C dX3_reserve_5 0 rfl ?_
      refine z_get C inX3_reserve_X3 0 wS_o rfl 0 (by decide) (C.w 1 rfl) rfl dX3_reserve_6 ?_
      refine z_alenI C 1 wS_rs dX3_reserve_9 ?_
      refine z_icmp_ge C 34 dX3_reserve_10 (by decide) (zle_NN (by omega) (by omega)) (fun h9 => absurd h9 (by omega)) (fun c_10 => ?_)
      refine z_iload_n C dX3_reserve_13 2 rfl ?_
      refine z_iload_n C dX3_reserve_14 1 rfl ?_
      refine z_iload_n C dX3_reserve_15 3 rfl ?_
      refine z_ishr C dX3_reserve_16 (v := nI (m / 2 ^ i)) (zshr_NN (by omega) (by omega)) ?_
      refine z_iconst C (nI 2) dX3_reserve_17 (by decide) ?_
      refine z_irem C dX3_reserve_18 (by decide) (v := nI ((m / 2 ^ i) % 2)) (pk_rem (by omega) (by decide) (by decide)) ?_
      refine z_aload_n C dX3_reserve_19 0 rfl ?_
      refine z_get C inX3_reserve_X3 0 wS_o rfl 0 (by decide) (C.w 1 rfl) rfl dX3_reserve_20 ?_
      refine z_iload_n C dX3_reserve_23 3 rfl ?_
      refine z_ialdN C 1 wS_rs (by omega) (by omega) dX3_reserve_24 (v := nI (zRf a i)) rfl ?_
      have f_24b := zRf_le ha i
      refine z_imul C dX3_reserve_25 (v := nI (if m.testBit i = true then zRf a i else 0)) (by rw [pk_mul, zrow_mul]) ?_
      refine z_iadd C dX3_reserve_26 (v := nI ((zSum (fun f => if m.testBit f = true then zRf a f else 0) i) + (if m.testBit i = true then zRf a i else 0))) (nI_add (zSum (fun f => if m.testBit f = true then zRf a f else 0) i) (if m.testBit i = true then zRf a i else 0)) ?_
      refine z_istore_n C dX3_reserve_27 (by decide) [(2, .int (nI ((zSum (fun f => if m.testBit f = true then zRf a f else 0) i) + (if m.testBit i = true then zRf a i else 0)))), (0, .ref (q 0)), (1, .int (nI m)), (3, .int (nI i))] rfl ?_
      refine z_iinc C dX3_reserve_28 3 (nI (i + 1)) rfl (nI_add i 1) (by decide) [(3, .int (nI (i + 1))), (2, .int (nI ((zSum (fun f => if m.testBit f = true then zRf a f else 0) i) + (if m.testBit i = true then zRf a i else 0)))), (0, .ref (q 0)), (1, .int (nI m))] rfl ?_
      refine z_goto C 4 dX3_reserve_31 (by decide) ?_
      refine zW.pick (lv' := [(0, .ref (q 0)), (1, .int (nI m)), (2, .int (nI ((zSum (fun f => if m.testBit f = true then zRf a f else 0) i) + (if m.testBit i = true then zRf a i else 0)))), (3, .int (nI (i + 1)))]) [2, 3, 1, 0] rfl ?_
      refine zW.lve (lv' := [(0, .ref (q 0)), (1, .int (nI m)), (2, .int (nI (zSum (fun f => if m.testBit f = true then zRf a f else 0) (i + 1)))), (3, .int (nI (i + 1)))]) (rfl) ?_
      exact ih4 (i + 1) (by omega)
  exact hlp4 (zNf a) 0 (by omega)
theorem inX3_gain_X3 : ∀ w ∈ wsX30, w ∈ wsX3_gain := fun w h => List.mem_cons_of_mem _ (List.mem_append_right _ (h))
set_option maxRecDepth 100000 in
set_option maxHeartbeats 4000000 in
theorem c_X3_gain (l : Launch) (g : zG) (q : Nat → Nat) (a : zS) (sm : Int × Nat × Nat) (ha : zOk a) (b : Nat) (hb : b < zNb a) : zM g l yX3_gain wsX3_gain { frames := 1, cells := 0, slots := 0, locals := 23 } [.ref (q 0), .int (nI b)] (wS g q a sm) (zPi (iZ (zGn a b)) (wS g q a sm)) 0 0 := by
  refine zM.of (cc := cX3_gain) (nL := 2) (ret := (some .int)) (lv := [(0, .ref (q 0)), (1, .int (nI b))]) (by decide) rfl (Nat.le_of_ble_eq_true rfl) rfl ?_
  intro E C0 hi
  have C : zC g E cX3_gain RX3 wsX3_gain 2 (some .int) := C0
  obtain ⟨hnf, hnd, hnb, hou, hrs, hbd⟩ := id ha
  refine z_aload_n C dX3_gain_0 0 rfl ?_
  refine z_get C inX3_gain_X3 0 wS_o rfl 2 (by decide) (C.w 1 rfl) rfl dX3_gain_1 ?_
  refine z_iload_n C dX3_gain_4 1 rfl ?_
  refine z_aald C 3 wS_bi (by omega) (by omega) dX3_gain_5 (zPt_at (by omega)) ?_
  refine z_iconst C (nI 2) dX3_gain_6 (by decide) ?_
  refine z_ialdN C (4 + b) (wS_row (b := b) (by omega)) (by omega) (by decide) dX3_gain_7 (v := nI (zPr a b)) rfl ?_
  have f_7b := ha.pr (b := b) (by omega)
  refine z_aload_n C dX3_gain_8 0 rfl ?_
  refine z_aload_n C dX3_gain_9 0 rfl ?_
  refine z_get C inX3_gain_X3 0 wS_o rfl 2 (by decide) (C.w 1 rfl) rfl dX3_gain_10 ?_
  refine z_iload_n C dX3_gain_13 1 rfl ?_
  refine z_aald C 3 wS_bi (by omega) (by omega) dX3_gain_14 (zPt_at (by omega)) ?_
  refine z_iconst C (nI 1) dX3_gain_15 (by decide) ?_
  refine z_ialdN C (4 + b) (wS_row (b := b) (by omega)) (by omega) (by decide) dX3_gain_16 (v := nI (zBu a b)) rfl ?_
  have f_16b := ha.bu8 (b := b) (by omega)
  refine z_callV C (c_X3_reserve l g q a sm ha (zBu a b) (by omega)) (cwV 1 C.ts gX3_gain_X3_reserve rfl rfl rfl (by decide +kernel) ⟨Nat.le_of_ble_eq_true rfl, Nat.le_of_ble_eq_true rfl⟩) wS_o rfl rfl rfl (Nat.le_of_ble_eq_true rfl) dX3_gain_17 ⟨Nat.zero_le _, Nat.zero_le _⟩ (z_i ?_)
  refine z_isub C dX3_gain_20 (v := iZ (((zPr a b : Nat) : Int) - ((zRes a (zBu a b) : Nat) : Int))) (iZ_sub ((zPr a b : Nat) : Int) ((zRes a (zBu a b) : Nat) : Int)) ?_
  exact z_iretP C dX3_gain_21 rfl rfl
theorem inX3_counts_X3 : ∀ w ∈ wsX30, w ∈ wsX3_counts := fun w h => List.mem_cons_of_mem _ (List.mem_append_right _ (h))
set_option maxRecDepth 100000 in
set_option maxHeartbeats 4000000 in
theorem c_X3_counts (l : Launch) (g : zG) (q : Nat → Nat) (a : zS) (sm : Int × Nat × Nat) (ha : zOk a) (b : Nat) (hb : b < zNb a) : zM g l yX3_counts wsX3_counts { frames := 2, cells := 0, slots := 0, locals := 44 } [.ref (q 0), .int (nI b)] (wS g q a sm) (zPi (bI (zCn a (zOu a) b)) (wS g q a sm)) 0 0 := by
  refine zM.of (cc := cX3_counts) (nL := 2) (ret := (some .boolean)) (lv := [(0, .ref (q 0)), (1, .int (nI b))]) (by decide) rfl (Nat.le_of_ble_eq_true rfl) rfl ?_
  intro E C0 hi
  have C : zC g E cX3_counts RX3 wsX3_counts 2 (some .boolean) := C0
  obtain ⟨hnf, hnd, hnb, hou, hrs, hbd⟩ := id ha
  have hgb := zGn_bnd ha hb
  refine z_aload_n C dX3_counts_0 0 rfl ?_
  refine z_get C inX3_counts_X3 0 wS_o rfl 2 (by decide) (C.w 1 rfl) rfl dX3_counts_1 ?_
  refine z_iload_n C dX3_counts_4 1 rfl ?_
  refine z_aald C 3 wS_bi (by omega) (by omega) dX3_counts_5 (zPt_at (by omega)) ?_
  refine z_iconst C (nI 4) dX3_counts_6 (by decide) ?_
  refine z_ialdN C (4 + b) (wS_row (b := b) (by omega)) (by omega) (by decide) dX3_counts_7 (v := nI (zGo a b)) rfl ?_
  have f_7b := ha.go (b := b) (by omega)
  refine z_if_ne C 39 dX3_counts_8 (by decide) (zeq_N0 (by omega)) (fun c_8 => ?_) (fun c_8 => ?_)
  · skip
    refine z_iconst C (nI 0) dX3_counts_39 (by decide) ?_
    exact z_zretP C dX3_counts_40 (by simp_all [bI, zn0, zn1, zCn, zIn]) rfl
  · skip
    refine z_aload_n C dX3_counts_11 0 rfl ?_
    refine z_get C inX3_counts_X3 0 wS_o rfl 1 (by decide) (C.w 2 rfl) rfl dX3_counts_12 ?_
    refine z_aload_n C dX3_counts_15 0 rfl ?_
    refine z_get C inX3_counts_X3 0 wS_o rfl 2 (by decide) (C.w 1 rfl) rfl dX3_counts_16 ?_
    refine z_iload_n C dX3_counts_19 1 rfl ?_
    refine z_aald C 3 wS_bi (by omega) (by omega) dX3_counts_20 (zPt_at (by omega)) ?_
    refine z_iconst C (nI 0) dX3_counts_21 (by decide) ?_
    refine z_ialdN C (4 + b) (wS_row (b := b) (by omega)) (by omega) (by decide) dX3_counts_22 (v := nI (zOw a b)) rfl ?_
    have f_22b := ha.ow (b := b) (by omega)
    refine z_zaldN C 2 wS_in (by omega) (by omega) dX3_counts_23 (v := bI (zIn a (zOw a b))) rfl ?_
    refine z_if_eq C 39 dX3_counts_24 (by decide) (zeq_B0 _) (fun c_24 => ?_) (fun c_24 => ?_)
    · skip
      refine z_iconst C (nI 0) dX3_counts_39 (by decide) ?_
      exact z_zretP C dX3_counts_40 (by simp_all [bI, zn0, zn1, zCn, zIn]) rfl
    · skip
      refine z_aload_n C dX3_counts_27 0 rfl ?_
      refine z_iload_n C dX3_counts_28 1 rfl ?_
      refine z_callV C (c_X3_gain l g q a sm ha b (by omega)) (cwV 1 C.ts gX3_counts_X3_gain rfl rfl rfl (by decide +kernel) ⟨Nat.le_of_ble_eq_true rfl, Nat.le_of_ble_eq_true rfl⟩) wS_o rfl rfl rfl (Nat.le_of_ble_eq_true rfl) dX3_counts_29 ⟨Nat.zero_le _, Nat.zero_le _⟩ (z_i ?_)
      refine z_if_lt C 39 dX3_counts_32 (by decide) (zlt_Z0 (by unfold zB31; omega)) (fun c_32 => ?_) (fun c_32 => ?_)
      · skip
        refine z_iconst C (nI 0) dX3_counts_39 (by decide) ?_
        exact z_zretP C dX3_counts_40 (by simp_all [bI, zn0, zn1, zCn, zIn]) rfl
      · skip
        refine z_iconst C (nI 1) dX3_counts_35 (by decide) ?_
        refine z_goto C 40 dX3_counts_36 (by decide) ?_
        exact z_zretP C dX3_counts_40 (by simp_all [bI, zn0, zn1, zCn, zIn]) rfl
