theorem zOuIn_and : ∀ o, o < 32 → ∀ d, d < 5 → nI o &&& (nI (2 ^ d) ^^^ iZ (-1)) = nI (zOuIn o d true) := by decide +kernel
theorem zsub1 (n : Nat) : nI (n + 1) - nI 1 = nI n := by rw [pk_sub (by omega)]; rfl
theorem zIn_bit {a : zS} {d : Nat} (hd : d < zNd a) : zIn a d = !(zOu a).testBit d := by unfold zIn; simp [hd]
theorem inX3_field_X3 : ∀ w ∈ wsX30, w ∈ wsX3_field := fun w h => List.mem_cons_of_mem _ (List.mem_append_right _ (h))
set_option maxRecDepth 100000 in
set_option maxHeartbeats 4000000 in
theorem c_X3_field (l : Launch) (g : zG) (q : Nat → Nat) (th : Int) (a : zS) (la : Nat → Int) (pe : Nat → Nat) (ga : Nat → Int) (sz : Nat → Nat) (ha : zOk a) (h0 : zM0 la pe) (hi9 : zInv a) (x : Nat) (hx : x ≤ 99) (hf : zNf a < 8) : zM g l yX3_field wsX3_field { frames := 1, cells := 0, slots := 0, locals := 22 } [.ref (q 0), .int (nI x)] (wM g q th a la pe ga sz) (zPie (nI (zNf a)) (zMw g q 0 (zSetNf (zSetRs a (zNf a) x) (zNf a + 1)))) 0 0 := by
  refine zM.of (cc := cX3_field) (nL := 2) (ret := (some .int)) (lv := [(0, .ref (q 0)), (1, .int (nI x))]) (by decide) rfl (Nat.le_of_ble_eq_true rfl) rfl ?_
  intro E C0 hi
  have C : zC g E cX3_field RX3 wsX3_field 2 (some .int) := C0
  obtain ⟨hnf, hnd, hnb, hou, hrs, hbd⟩ := id ha
  refine z_aload_n C dX3_field_0 0 rfl ?_
  refine z_iconst C (nI 0) dX3_field_1 (by decide) ?_
  refine z_put C inX3_field_X3 tyX3_ok nmX3 0 wM_o rfl 0 (by decide) (C.w 1 rfl) rfl (tyX3_ok 0 (by decide)) rfl rfl (Nat.le_of_ble_eq_true rfl) dX3_field_2 (wM_set_th 0) ?_
  refine z_iload_n C dX3_field_5 1 rfl ?_
  refine z_iconst C (nI 0) dX3_field_6 (by decide) ?_
  refine z_bipush C (nI 99) dX3_field_7 (by decide) ?_
  refine z_callS C (c_X3_isIn_ok l g (wM g q 0 a la pe ga sz) x 0 99 (by omega) (by omega) (by omega)) (va_cwS 3 C.ts gX3_field_X3_isIn rfl rfl rfl (by decide +kernel) ⟨Nat.le_of_ble_eq_true rfl, Nat.le_of_ble_eq_true rfl⟩) rfl rfl (Nat.le_of_ble_eq_true rfl) dX3_field_9 ⟨Nat.zero_le _, Nat.zero_le _⟩ (z_i ?_)
  refine z_if_ne C 21 dX3_field_12 (by decide) (zeq_B0 _) (fun c_12 => ?_) (fun h9 => absurd h9 (by decide))
  refine z_aload_n C dX3_field_21 0 rfl ?_
  refine z_get C inX3_field_X3 0 wM_o rfl 1 (by decide) (C.w 2 rfl) rfl dX3_field_22 ?_
  refine z_bipush C (nI 8) dX3_field_25 (by decide) ?_
  refine z_icmp_ne C 36 dX3_field_27 (by decide) (zeq_NN (by omega) (by omega)) (fun c_27 => ?_) (fun h9 => absurd h9 (by omega))
  refine z_aload_n C dX3_field_36 0 rfl ?_
  refine z_get C inX3_field_X3 0 wM_o rfl 5 (by decide) (C.w 3 rfl) rfl dX3_field_37 ?_
  refine z_aload_n C dX3_field_40 0 rfl ?_
  refine z_get C inX3_field_X3 0 wM_o rfl 1 (by decide) (C.w 2 rfl) rfl dX3_field_41 ?_
  refine z_iload_n C dX3_field_44 1 rfl ?_
  refine z_iastN C 1 wM_rs (by omega) (by decide) dX3_field_45 (wM_set_rs (zNf a) x) ?_
  refine z_aload_n C dX3_field_46 0 rfl ?_
  refine z_dup C dX3_field_47 rfl ?_
  refine z_get C inX3_field_X3 0 wM_o rfl 1 (by decide) (C.w 2 rfl) rfl dX3_field_48 ?_
  refine z_iconst C (nI 1) dX3_field_51 (by decide) ?_
  refine z_iadd C dX3_field_52 (v := nI ((zNf (zSetRs a (zNf a) x)) + 1)) (nI_add (zNf (zSetRs a (zNf a) x)) 1) ?_
  refine z_put C inX3_field_X3 tyX3_ok nmX3 0 wM_o rfl 1 (by decide) (C.w 2 rfl) rfl (tyX3_ok 1 (by decide)) rfl rfl (Nat.le_of_ble_eq_true rfl) dX3_field_53 (wM_set_nf ((zNf (zSetRs a (zNf a) x)) + 1)) ?_
  refine z_aload_n C dX3_field_56 0 rfl ?_
  refine z_get C inX3_field_X3 0 wM_o rfl 1 (by decide) (C.w 2 rfl) rfl dX3_field_57 ?_
  refine z_iconst C (nI 1) dX3_field_60 (by decide) ?_
  refine z_isub C dX3_field_61 (v := nI (zNf a)) (zsub1 _) ?_
  exact z_iretE C dX3_field_62 rfl ⟨_, _, _, _, rfl, h0⟩
theorem inX3_setReserve_X3 : ∀ w ∈ wsX30, w ∈ wsX3_setReserve := fun w h => List.mem_cons_of_mem _ (List.mem_append_right _ (h))
set_option maxRecDepth 100000 in
set_option maxHeartbeats 4000000 in
theorem c_X3_setReserve (l : Launch) (g : zG) (q : Nat → Nat) (th : Int) (a : zS) (la : Nat → Int) (pe : Nat → Nat) (ga : Nat → Int) (sz : Nat → Nat) (ha : zOk a) (h0 : zM0 la pe) (hi9 : zInv a) (f x : Nat) (hf : f < zNf a) (hx : x ≤ 99) : zM g l yX3_setReserve wsX3_setReserve { frames := 2, cells := 0, slots := 0, locals := 43 } [.ref (q 0), .int (nI f), .int (nI x)] (wM g q th a la pe ga sz) (zPie (nI (zRs a f)) (zMw g q 0 (zSetRs a f x))) 0 0 := by
  refine zM.of (cc := cX3_setReserve) (nL := 4) (ret := (some .int)) (lv := [(0, .ref (q 0)), (1, .int (nI f)), (2, .int (nI x))]) (by decide) rfl (Nat.le_of_ble_eq_true rfl) rfl ?_
  intro E C0 hi
  have C : zC g E cX3_setReserve RX3 wsX3_setReserve 4 (some .int) := C0
  obtain ⟨hnf, hnd, hnb, hou, hrs, hbd⟩ := id ha
  refine z_aload_n C dX3_setReserve_0 0 rfl ?_
  refine z_iconst C (nI 0) dX3_setReserve_1 (by decide) ?_
  refine z_put C inX3_setReserve_X3 tyX3_ok nmX3 0 wM_o rfl 0 (by decide) (C.w 1 rfl) rfl (tyX3_ok 0 (by decide)) rfl rfl (Nat.le_of_ble_eq_true rfl) dX3_setReserve_2 (wM_set_th 0) ?_
  refine z_aload_n C dX3_setReserve_5 0 rfl ?_
  refine z_iload_n C dX3_setReserve_6 1 rfl ?_
  refine z_callV C (c_X3_isField_ok l g q 0 a la pe ga sz ha f (by omega)) (cwV 1 C.ts gX3_setReserve_X3_isField rfl rfl rfl (by decide +kernel) ⟨Nat.le_of_ble_eq_true rfl, Nat.le_of_ble_eq_true rfl⟩) wM_o rfl rfl rfl (Nat.le_of_ble_eq_true rfl) dX3_setReserve_7 ⟨Nat.zero_le _, Nat.zero_le _⟩ (z_i ?_)
  refine z_if_ne C 19 dX3_setReserve_10 (by decide) (zeq_B0 _) (fun c_10 => ?_) (fun h9 => absurd h9 (by decide))
  refine z_iload_n C dX3_setReserve_19 2 rfl ?_
  refine z_iconst C (nI 0) dX3_setReserve_20 (by decide) ?_
  refine z_bipush C (nI 99) dX3_setReserve_21 (by decide) ?_
  refine z_callS C (c_X3_isIn_ok l g (wM g q 0 a la pe ga sz) x 0 99 (by omega) (by omega) (by omega)) (va_cwS 3 C.ts gX3_setReserve_X3_isIn rfl rfl rfl (by decide +kernel) ⟨Nat.le_of_ble_eq_true rfl, Nat.le_of_ble_eq_true rfl⟩) rfl rfl (Nat.le_of_ble_eq_true rfl) dX3_setReserve_23 ⟨Nat.zero_le _, Nat.zero_le _⟩ (z_i ?_)
  refine z_if_ne C 35 dX3_setReserve_26 (by decide) (zeq_B0 _) (fun c_26 => ?_) (fun h9 => absurd h9 (by decide))
  refine z_aload_n C dX3_setReserve_35 0 rfl ?_
  refine z_get C inX3_setReserve_X3 0 wM_o rfl 5 (by decide) (C.w 2 rfl) rfl dX3_setReserve_36 ?_
  refine z_iload_n C dX3_setReserve_39 1 rfl ?_
  refine z_ialdN C 1 wM_rs (by omega) (by decide) dX3_setReserve_40 (v := nI (zRs a f)) rfl ?_
  refine z_istore_n C dX3_setReserve_41 (by decide) [(3, .int (nI (zRs a f))), (0, .ref (q 0)), (1, .int (nI f)), (2, .int (nI x))] rfl ?_
  refine z_aload_n C dX3_setReserve_42 1 rfl ?_
  refine z_get C inX3_setReserve_X3 0 wM_o rfl 5 (by decide) (C.w 2 rfl) rfl dX3_setReserve_43 ?_
  refine z_iload_n C dX3_setReserve_46 2 rfl ?_
  refine z_iload_n C dX3_setReserve_47 3 rfl ?_
  refine z_iastN C 1 wM_rs (by omega) (by decide) dX3_setReserve_48 (wM_set_rs f x) ?_
  refine z_iload_n C dX3_setReserve_49 0 rfl ?_
  exact z_iretE C dX3_setReserve_50 rfl ⟨_, _, _, _, rfl, h0⟩
theorem inX3_join_X3 : ∀ w ∈ wsX30, w ∈ wsX3_join := fun w h => List.mem_cons_of_mem _ (List.mem_append_right _ (h))
set_option maxRecDepth 100000 in
set_option maxHeartbeats 4000000 in
theorem c_X3_join (l : Launch) (g : zG) (q : Nat → Nat) (th : Int) (a : zS) (la : Nat → Int) (pe : Nat → Nat) (ga : Nat → Int) (sz : Nat → Nat) (ha : zOk a) (h0 : zM0 la pe) (hi9 : zInv a) (hd : zNd a < 5) : zM g l yX3_join wsX3_join { frames := 1, cells := 0, slots := 0, locals := 21 } [.ref (q 0)] (wM g q th a la pe ga sz) (zPie (nI (zNd a)) (zMw g q 0 (zSetNd a (zNd a + 1)))) 0 0 := by
  refine zM.of (cc := cX3_join) (nL := 1) (ret := (some .int)) (lv := [(0, .ref (q 0))]) (by decide) rfl (Nat.le_of_ble_eq_true rfl) rfl ?_
  intro E C0 hi
  have C : zC g E cX3_join RX3 wsX3_join 1 (some .int) := C0
  obtain ⟨hnf, hnd, hnb, hou, hrs, hbd⟩ := id ha
  refine z_aload_n C dX3_join_0 0 rfl ?_
  refine z_iconst C (nI 0) dX3_join_1 (by decide) ?_
  refine z_put C inX3_join_X3 tyX3_ok nmX3 0 wM_o rfl 0 (by decide) (C.w 1 rfl) rfl (tyX3_ok 0 (by decide)) rfl rfl (Nat.le_of_ble_eq_true rfl) dX3_join_2 (wM_set_th 0) ?_
  refine z_aload_n C dX3_join_5 0 rfl ?_
  refine z_get C inX3_join_X3 0 wM_o rfl 2 (by decide) (C.w 2 rfl) rfl dX3_join_6 ?_
  refine z_iconst C (nI 5) dX3_join_9 (by decide) ?_
  refine z_icmp_ne C 19 dX3_join_10 (by decide) (zeq_NN (by omega) (by omega)) (fun c_10 => ?_) (fun h9 => absurd h9 (by omega))
  refine z_aload_n C dX3_join_19 0 rfl ?_
  refine z_dup C dX3_join_20 rfl ?_
  refine z_get C inX3_join_X3 0 wM_o rfl 2 (by decide) (C.w 2 rfl) rfl dX3_join_21 ?_
  refine z_iconst C (nI 1) dX3_join_24 (by decide) ?_
  refine z_iadd C dX3_join_25 (v := nI ((zNd a) + 1)) (nI_add (zNd a) 1) ?_
  refine z_put C inX3_join_X3 tyX3_ok nmX3 0 wM_o rfl 2 (by decide) (C.w 2 rfl) rfl (tyX3_ok 2 (by decide)) rfl rfl (Nat.le_of_ble_eq_true rfl) dX3_join_26 (wM_set_nd ((zNd a) + 1)) ?_
  refine z_aload_n C dX3_join_29 0 rfl ?_
  refine z_get C inX3_join_X3 0 wM_o rfl 2 (by decide) (C.w 2 rfl) rfl dX3_join_30 ?_
  refine z_iconst C (nI 1) dX3_join_33 (by decide) ?_
  refine z_isub C dX3_join_34 (v := nI (zNd a)) (zsub1 _) ?_
  exact z_iretE C dX3_join_35 rfl ⟨_, _, _, _, rfl, h0⟩
theorem inX3_setIn_X3 : ∀ w ∈ wsX30, w ∈ wsX3_setIn := fun w h => List.mem_cons_of_mem _ (List.mem_append_right _ (h))
set_option maxRecDepth 100000 in
set_option maxHeartbeats 4000000 in
theorem c_X3_setIn_true (l : Launch) (g : zG) (q : Nat → Nat) (th : Int) (a : zS) (la : Nat → Int) (pe : Nat → Nat) (ga : Nat → Int) (sz : Nat → Nat) (ha : zOk a) (h0 : zM0 la pe) (d : Nat) (hd : d < zNd a) : zM g l yX3_setIn wsX3_setIn { frames := 2, cells := 0, slots := 0, locals := 43 } [.ref (q 0), .int (nI d), .int (bI true)] (wM g q th a la pe ga sz) (zPie (bI (zIn a d)) (zMw g q 0 (zSetOu a (zOuIn (zOu a) d true)))) 0 0 := by
  refine zM.of (cc := cX3_setIn) (nL := 4) (ret := (some .boolean)) (lv := [(0, .ref (q 0)), (1, .int (nI d)), (2, .int (bI true))]) (by decide) rfl (Nat.le_of_ble_eq_true rfl) rfl ?_
  intro E C0 hi
  have C : zC g E cX3_setIn RX3 wsX3_setIn 4 (some .boolean) := C0
  obtain ⟨hnf, hnd, hnb, hou, hrs, hbd⟩ := id ha
  have ho32 : 2 ^ zNd a ≤ 2 ^ 5 := zp2_le hnd
  refine z_aload_n C dX3_setIn_0 0 rfl ?_
  refine z_aload_n C dX3_setIn_1 0 rfl ?_
  refine z_iload_n C dX3_setIn_2 1 rfl ?_
  refine z_callV C (c_X3_isBidder_ok l g q th a la pe ga sz ha d (by omega)) (cwV 1 C.ts gX3_setIn_X3_isBidder rfl rfl rfl (by decide +kernel) ⟨Nat.le_of_ble_eq_true rfl, Nat.le_of_ble_eq_true rfl⟩) wM_o rfl rfl rfl (Nat.le_of_ble_eq_true rfl) dX3_setIn_3 ⟨Nat.zero_le _, Nat.zero_le _⟩ (z_i ?_)
  refine z_if_eq C 13 dX3_setIn_6 (by decide) (zeq_B0 _) (fun h9 => absurd h9 (by decide)) (fun c_6 => ?_)
  refine z_iconst C (nI 0) dX3_setIn_9 (by decide) ?_
  refine z_goto C 14 dX3_setIn_10 (by decide) ?_
  refine z_put C inX3_setIn_X3 tyX3_ok nmX3 0 wM_o rfl 0 (by decide) (C.w 1 rfl) rfl (tyX3_ok 0 (by decide)) rfl rfl (Nat.le_of_ble_eq_true rfl) dX3_setIn_14 (wM_set_th 0) ?_
  refine z_aload_n C dX3_setIn_17 0 rfl ?_
  refine z_get C inX3_setIn_X3 0 wM_o rfl 0 (by decide) (C.w 1 rfl) rfl dX3_setIn_18 ?_
  refine z_if_eq C 26 dX3_setIn_21 (by decide) (zeq_ZZ (y := 0) (by unfold zB31; omega) ⟨by decide, by decide⟩) (fun c_21 => ?_) (fun h9 => absurd (by decide) h9)
  refine z_aload_n C dX3_setIn_26 0 rfl ?_
  refine z_get C inX3_setIn_X3 0 wM_o rfl 4 (by decide) (C.w 2 rfl) rfl dX3_setIn_27 ?_
  refine z_iload_n C dX3_setIn_30 1 rfl ?_
  refine z_callS C (c_X3_bit l g (wM g q 0 a la pe ga sz) (zOu a) d (by omega) (by omega)) (va_cwS 2 C.ts gX3_setIn_X3_bit rfl rfl rfl (by decide +kernel) ⟨Nat.le_of_ble_eq_true rfl, Nat.le_of_ble_eq_true rfl⟩) rfl rfl (Nat.le_of_ble_eq_true rfl) dX3_setIn_31 ⟨Nat.zero_le _, Nat.zero_le _⟩ (z_i ?_)
  refine z_if_ne C 41 dX3_setIn_34 (by decide) (zeq_B0 _) (fun c_34 => ?_) (fun c_34 => ?_)
  · skip
    refine z_iconst C (nI 0) dX3_setIn_41 (by decide) ?_
    refine z_istore_n C dX3_setIn_42 (by decide) [(3, .int (nI 0)), (0, .ref (q 0)), (1, .int (nI d)), (2, .int (bI true))] rfl ?_
    refine z_aload_n C dX3_setIn_43 1 rfl ?_
    refine z_iload_n C dX3_setIn_44 3 rfl ?_
    refine z_if_eq C 61 dX3_setIn_45 (by decide) (zeq_B0 _) (fun h9 => absurd h9 (by decide)) (fun c_45 => ?_)
    refine z_aload_n C dX3_setIn_48 1 rfl ?_
    refine z_get C inX3_setIn_X3 0 wM_o rfl 4 (by decide) (C.w 2 rfl) rfl dX3_setIn_49 ?_
    refine z_iconst C (nI 1) dX3_setIn_52 (by decide) ?_
    refine z_iload_n C dX3_setIn_53 2 rfl ?_
    refine z_ishl C dX3_setIn_54 (v := nI (2 ^ d)) (zshl_1N (by omega)) ?_
    refine z_iconst C (iZ (-1)) dX3_setIn_55 (by decide) ?_
    refine z_ixor C dX3_setIn_56 (v := ((nI (2 ^ d)) ^^^ (iZ (-1)))) rfl ?_
    refine z_iand C dX3_setIn_57 (v := nI (zOuIn (zOu a) d true)) (zOuIn_and _ (by omega) _ (by omega)) ?_
    refine z_goto C 69 dX3_setIn_58 (by decide) ?_
    refine z_put C inX3_setIn_X3 tyX3_ok nmX3 0 wM_o rfl 4 (by decide) (C.w 2 rfl) rfl (tyX3_ok 4 (by decide)) rfl rfl (Nat.le_of_ble_eq_true rfl) dX3_setIn_69 (wM_set_ou (zOuIn (zOu a) d true)) ?_
    refine z_iload_n C dX3_setIn_72 0 rfl ?_
    exact z_zretE C dX3_setIn_73 (by rw [zIn_bit hd]; simp_all; rfl) ⟨_, _, _, _, rfl, h0⟩
  · skip
    refine z_iconst C (nI 1) dX3_setIn_37 (by decide) ?_
    refine z_goto C 42 dX3_setIn_38 (by decide) ?_
    refine z_istore_n C dX3_setIn_42 (by decide) [(3, .int (nI 1)), (0, .ref (q 0)), (1, .int (nI d)), (2, .int (bI true))] rfl ?_
    refine z_aload_n C dX3_setIn_43 1 rfl ?_
    refine z_iload_n C dX3_setIn_44 3 rfl ?_
    refine z_if_eq C 61 dX3_setIn_45 (by decide) (zeq_B0 _) (fun h9 => absurd h9 (by decide)) (fun c_45 => ?_)
    refine z_aload_n C dX3_setIn_48 1 rfl ?_
    refine z_get C inX3_setIn_X3 0 wM_o rfl 4 (by decide) (C.w 2 rfl) rfl dX3_setIn_49 ?_
    refine z_iconst C (nI 1) dX3_setIn_52 (by decide) ?_
    refine z_iload_n C dX3_setIn_53 2 rfl ?_
    refine z_ishl C dX3_setIn_54 (v := nI (2 ^ d)) (zshl_1N (by omega)) ?_
    refine z_iconst C (iZ (-1)) dX3_setIn_55 (by decide) ?_
    refine z_ixor C dX3_setIn_56 (v := ((nI (2 ^ d)) ^^^ (iZ (-1)))) rfl ?_
    refine z_iand C dX3_setIn_57 (v := nI (zOuIn (zOu a) d true)) (zOuIn_and _ (by omega) _ (by omega)) ?_
    refine z_goto C 69 dX3_setIn_58 (by decide) ?_
    refine z_put C inX3_setIn_X3 tyX3_ok nmX3 0 wM_o rfl 4 (by decide) (C.w 2 rfl) rfl (tyX3_ok 4 (by decide)) rfl rfl (Nat.le_of_ble_eq_true rfl) dX3_setIn_69 (wM_set_ou (zOuIn (zOu a) d true)) ?_
    refine z_iload_n C dX3_setIn_72 0 rfl ?_
    exact z_zretE C dX3_setIn_73 (by rw [zIn_bit hd]; simp_all; rfl) ⟨_, _, _, _, rfl, h0⟩
set_option maxRecDepth 100000 in
set_option maxHeartbeats 4000000 in
theorem c_X3_setIn_false (l : Launch) (g : zG) (q : Nat → Nat) (th : Int) (a : zS) (la : Nat → Int) (pe : Nat → Nat) (ga : Nat → Int) (sz : Nat → Nat) (ha : zOk a) (h0 : zM0 la pe) (d : Nat) (hd : d < zNd a) : zM g l yX3_setIn wsX3_setIn { frames := 2, cells := 0, slots := 0, locals := 43 } [.ref (q 0), .int (nI d), .int (bI false)] (wM g q th a la pe ga sz) (zPie (bI (zIn a d)) (zMw g q 0 (zSetOu a (zOuIn (zOu a) d false)))) 0 0 := by
  refine zM.of (cc := cX3_setIn) (nL := 4) (ret := (some .boolean)) (lv := [(0, .ref (q 0)), (1, .int (nI d)), (2, .int (bI false))]) (by decide) rfl (Nat.le_of_ble_eq_true rfl) rfl ?_
  intro E C0 hi
  have C : zC g E cX3_setIn RX3 wsX3_setIn 4 (some .boolean) := C0
  obtain ⟨hnf, hnd, hnb, hou, hrs, hbd⟩ := id ha
  have ho32 : 2 ^ zNd a ≤ 2 ^ 5 := zp2_le hnd
  refine z_aload_n C dX3_setIn_0 0 rfl ?_
  refine z_aload_n C dX3_setIn_1 0 rfl ?_
  refine z_iload_n C dX3_setIn_2 1 rfl ?_
  refine z_callV C (c_X3_isBidder_ok l g q th a la pe ga sz ha d (by omega)) (cwV 1 C.ts gX3_setIn_X3_isBidder rfl rfl rfl (by decide +kernel) ⟨Nat.le_of_ble_eq_true rfl, Nat.le_of_ble_eq_true rfl⟩) wM_o rfl rfl rfl (Nat.le_of_ble_eq_true rfl) dX3_setIn_3 ⟨Nat.zero_le _, Nat.zero_le _⟩ (z_i ?_)
  refine z_if_eq C 13 dX3_setIn_6 (by decide) (zeq_B0 _) (fun h9 => absurd h9 (by decide)) (fun c_6 => ?_)
  refine z_iconst C (nI 0) dX3_setIn_9 (by decide) ?_
  refine z_goto C 14 dX3_setIn_10 (by decide) ?_
  refine z_put C inX3_setIn_X3 tyX3_ok nmX3 0 wM_o rfl 0 (by decide) (C.w 1 rfl) rfl (tyX3_ok 0 (by decide)) rfl rfl (Nat.le_of_ble_eq_true rfl) dX3_setIn_14 (wM_set_th 0) ?_
  refine z_aload_n C dX3_setIn_17 0 rfl ?_
  refine z_get C inX3_setIn_X3 0 wM_o rfl 0 (by decide) (C.w 1 rfl) rfl dX3_setIn_18 ?_
  refine z_if_eq C 26 dX3_setIn_21 (by decide) (zeq_ZZ (y := 0) (by unfold zB31; omega) ⟨by decide, by decide⟩) (fun c_21 => ?_) (fun h9 => absurd (by decide) h9)
  refine z_aload_n C dX3_setIn_26 0 rfl ?_
  refine z_get C inX3_setIn_X3 0 wM_o rfl 4 (by decide) (C.w 2 rfl) rfl dX3_setIn_27 ?_
  refine z_iload_n C dX3_setIn_30 1 rfl ?_
  refine z_callS C (c_X3_bit l g (wM g q 0 a la pe ga sz) (zOu a) d (by omega) (by omega)) (va_cwS 2 C.ts gX3_setIn_X3_bit rfl rfl rfl (by decide +kernel) ⟨Nat.le_of_ble_eq_true rfl, Nat.le_of_ble_eq_true rfl⟩) rfl rfl (Nat.le_of_ble_eq_true rfl) dX3_setIn_31 ⟨Nat.zero_le _, Nat.zero_le _⟩ (z_i ?_)
  refine z_if_ne C 41 dX3_setIn_34 (by decide) (zeq_B0 _) (fun c_34 => ?_) (fun c_34 => ?_)
  · skip
    refine z_iconst C (nI 0) dX3_setIn_41 (by decide) ?_
    refine z_istore_n C dX3_setIn_42 (by decide) [(3, .int (nI 0)), (0, .ref (q 0)), (1, .int (nI d)), (2, .int (bI false))] rfl ?_
    refine z_aload_n C dX3_setIn_43 1 rfl ?_
    refine z_iload_n C dX3_setIn_44 3 rfl ?_
    refine z_if_eq C 61 dX3_setIn_45 (by decide) (zeq_B0 _) (fun c_45 => ?_) (fun h9 => absurd (by decide) h9)
    refine z_aload_n C dX3_setIn_61 1 rfl ?_
    refine z_get C inX3_setIn_X3 0 wM_o rfl 4 (by decide) (C.w 2 rfl) rfl dX3_setIn_62 ?_
    refine z_iconst C (nI 1) dX3_setIn_65 (by decide) ?_
    refine z_iload_n C dX3_setIn_66 2 rfl ?_
    refine z_ishl C dX3_setIn_67 (v := nI (2 ^ d)) (zshl_1N (by omega)) ?_
    refine z_ior C dX3_setIn_68 (v := nI (zOuIn (zOu a) d false)) (zor_NN _ _) ?_
    refine z_put C inX3_setIn_X3 tyX3_ok nmX3 0 wM_o rfl 4 (by decide) (C.w 2 rfl) rfl (tyX3_ok 4 (by decide)) rfl rfl (Nat.le_of_ble_eq_true rfl) dX3_setIn_69 (wM_set_ou (zOuIn (zOu a) d false)) ?_
    refine z_iload_n C dX3_setIn_72 0 rfl ?_
    exact z_zretE C dX3_setIn_73 (by rw [zIn_bit hd]; simp_all; rfl) ⟨_, _, _, _, rfl, h0⟩
  · skip
    refine z_iconst C (nI 1) dX3_setIn_37 (by decide) ?_
    refine z_goto C 42 dX3_setIn_38 (by decide) ?_
    refine z_istore_n C dX3_setIn_42 (by decide) [(3, .int (nI 1)), (0, .ref (q 0)), (1, .int (nI d)), (2, .int (bI false))] rfl ?_
    refine z_aload_n C dX3_setIn_43 1 rfl ?_
    refine z_iload_n C dX3_setIn_44 3 rfl ?_
    refine z_if_eq C 61 dX3_setIn_45 (by decide) (zeq_B0 _) (fun c_45 => ?_) (fun h9 => absurd (by decide) h9)
    refine z_aload_n C dX3_setIn_61 1 rfl ?_
    refine z_get C inX3_setIn_X3 0 wM_o rfl 4 (by decide) (C.w 2 rfl) rfl dX3_setIn_62 ?_
    refine z_iconst C (nI 1) dX3_setIn_65 (by decide) ?_
    refine z_iload_n C dX3_setIn_66 2 rfl ?_
    refine z_ishl C dX3_setIn_67 (v := nI (2 ^ d)) (zshl_1N (by omega)) ?_
    refine z_ior C dX3_setIn_68 (v := nI (zOuIn (zOu a) d false)) (zor_NN _ _) ?_
    refine z_put C inX3_setIn_X3 tyX3_ok nmX3 0 wM_o rfl 4 (by decide) (C.w 2 rfl) rfl (tyX3_ok 4 (by decide)) rfl rfl (Nat.le_of_ble_eq_true rfl) dX3_setIn_69 (wM_set_ou (zOuIn (zOu a) d false)) ?_
    refine z_iload_n C dX3_setIn_72 0 rfl ?_
    exact z_zretE C dX3_setIn_73 (by rw [zIn_bit hd]; simp_all; rfl) ⟨_, _, _, _, rfl, h0⟩
theorem c_X3_setIn (l : Launch) (g : zG) (q : Nat → Nat) (th : Int) (a : zS) (la : Nat → Int) (pe : Nat → Nat) (ga : Nat → Int) (sz : Nat → Nat) (ha : zOk a) (h0 : zM0 la pe) (d : Nat) (hd : d < zNd a) (v : Bool) : zM g l yX3_setIn wsX3_setIn { frames := 2, cells := 0, slots := 0, locals := 43 } [.ref (q 0), .int (nI d), .int (bI v)] (wM g q th a la pe ga sz) (zPie (bI (zIn a d)) (zMw g q 0 (zSetOu a (zOuIn (zOu a) d v)))) 0 0 := by
  cases v
  · exact c_X3_setIn_false l g q th a la pe ga sz ha h0 d hd
  · exact c_X3_setIn_true l g q th a la pe ga sz ha h0 d hd
theorem inX3_change_X3 : ∀ w ∈ wsX30, w ∈ wsX3_change := fun w h => List.mem_cons_of_mem _ (List.mem_append_right _ (h))
set_option maxRecDepth 100000 in
set_option maxHeartbeats 4000000 in
theorem c_X3_change_2 (l : Launch) (g : zG) (q : Nat → Nat) (th : Int) (a : zS) (la : Nat → Int) (pe : Nat → Nat) (ga : Nat → Int) (sz : Nat → Nat) (ha : zOk a) (h0 : zM0 la pe) (b x : Nat) (hb : b < zNb a) (hx : x ≤ 999) : zM g l yX3_change wsX3_change { frames := 2, cells := 0, slots := 0, locals := 43 } [.ref (q 0), .int (nI b), .int (nI 2), .int (nI x)] (wM g q th a la pe ga sz) (zPie (nI (zPr a b)) (zMw g q th (zSetPr a b x))) 0 0 := by
  refine zM.of (cc := cX3_change) (nL := 5) (ret := (some .int)) (lv := [(0, .ref (q 0)), (1, .int (nI b)), (2, .int (nI 2)), (3, .int (nI x))]) (by decide) rfl (Nat.le_of_ble_eq_true rfl) rfl ?_
  intro E C0 hi
  have C : zC g E cX3_change RX3 wsX3_change 5 (some .int) := C0
  obtain ⟨hnf, hnd, hnb, hou, hrs, hbd⟩ := id ha
  refine z_aload_n C dX3_change_0 0 rfl ?_
  refine z_iload_n C dX3_change_1 1 rfl ?_
  refine z_callV C (c_X3_isBid_ok l g q th a la pe ga sz ha b (by omega)) (cwV 1 C.ts gX3_change_X3_isBid rfl rfl rfl (by decide +kernel) ⟨Nat.le_of_ble_eq_true rfl, Nat.le_of_ble_eq_true rfl⟩) wM_o rfl rfl rfl (Nat.le_of_ble_eq_true rfl) dX3_change_2 ⟨Nat.zero_le _, Nat.zero_le _⟩ (z_i ?_)
  refine z_if_ne C 14 dX3_change_5 (by decide) (zeq_B0 _) (fun c_5 => ?_) (fun h9 => absurd h9 (by decide))
  refine z_iload_n C dX3_change_14 3 rfl ?_
  refine z_callS C (c_X3_isPrice_ok l g (wM g q th a la pe ga sz) x (by omega)) (va_cwS 1 C.ts gX3_change_X3_isPrice rfl rfl rfl (by decide +kernel) ⟨Nat.le_of_ble_eq_true rfl, Nat.le_of_ble_eq_true rfl⟩) rfl rfl (Nat.le_of_ble_eq_true rfl) dX3_change_15 ⟨Nat.zero_le _, Nat.zero_le _⟩ (z_i ?_)
  refine z_if_ne C 27 dX3_change_18 (by decide) (zeq_B0 _) (fun c_18 => ?_) (fun h9 => absurd h9 (by decide))
  refine z_aload_n C dX3_change_27 0 rfl ?_
  refine z_iload_n C dX3_change_28 1 rfl ?_
  refine z_iload_n C dX3_change_29 2 rfl ?_
  refine z_callV C (c_X3_bi_2 l g q th a la pe ga sz b (by omega)) (cwV 2 C.ts gX3_change_X3_bi rfl rfl rfl (by decide +kernel) ⟨Nat.le_of_ble_eq_true rfl, Nat.le_of_ble_eq_true rfl⟩) wM_o rfl rfl rfl (Nat.le_of_ble_eq_true rfl) dX3_change_30 ⟨Nat.zero_le _, Nat.zero_le _⟩ (z_i ?_)
  refine z_istore C dX3_change_33 (by decide) [(4, .int (nI (zPr a b))), (0, .ref (q 0)), (1, .int (nI b)), (2, .int (nI 2)), (3, .int (nI x))] rfl ?_
  refine z_aload_n C dX3_change_35 1 rfl ?_
  refine z_get C inX3_change_X3 0 wM_o rfl 6 (by decide) (C.w 1 rfl) rfl dX3_change_36 ?_
  refine z_iconst C (nI 5) dX3_change_39 (by decide) ?_
  refine z_iload_n C dX3_change_40 2 rfl ?_
  refine z_imul C dX3_change_41 (v := nI (5 * b)) (pk_mul 5 b) ?_
  refine z_iload_n C dX3_change_42 3 rfl ?_
  refine z_iadd C dX3_change_43 (v := nI ((5 * b) + 2)) (nI_add (5 * b) 2) ?_
  refine z_iload_n C dX3_change_44 4 rfl ?_
  refine z_iastN C 2 wM_rw (by omega) (by decide) dX3_change_45 (wM_set_pr b x) ?_
  refine z_iload C dX3_change_46 0 rfl ?_
  exact z_iretE C dX3_change_48 rfl ⟨_, _, _, _, rfl, h0⟩
set_option maxRecDepth 100000 in
set_option maxHeartbeats 4000000 in
theorem c_X3_change_3 (l : Launch) (g : zG) (q : Nat → Nat) (th : Int) (a : zS) (la : Nat → Int) (pe : Nat → Nat) (ga : Nat → Int) (sz : Nat → Nat) (ha : zOk a) (h0 : zM0 la pe) (b x : Nat) (hb : b < zNb a) (hx : x ≤ 999) : zM g l yX3_change wsX3_change { frames := 2, cells := 0, slots := 0, locals := 43 } [.ref (q 0), .int (nI b), .int (nI 3), .int (nI x)] (wM g q th a la pe ga sz) (zPie (nI (zWo a b)) (zMw g q th (zSetWo a b x))) 0 0 := by
  refine zM.of (cc := cX3_change) (nL := 5) (ret := (some .int)) (lv := [(0, .ref (q 0)), (1, .int (nI b)), (2, .int (nI 3)), (3, .int (nI x))]) (by decide) rfl (Nat.le_of_ble_eq_true rfl) rfl ?_
  intro E C0 hi
  have C : zC g E cX3_change RX3 wsX3_change 5 (some .int) := C0
  obtain ⟨hnf, hnd, hnb, hou, hrs, hbd⟩ := id ha
  refine z_aload_n C dX3_change_0 0 rfl ?_
  refine z_iload_n C dX3_change_1 1 rfl ?_
  refine z_callV C (c_X3_isBid_ok l g q th a la pe ga sz ha b (by omega)) (cwV 1 C.ts gX3_change_X3_isBid rfl rfl rfl (by decide +kernel) ⟨Nat.le_of_ble_eq_true rfl, Nat.le_of_ble_eq_true rfl⟩) wM_o rfl rfl rfl (Nat.le_of_ble_eq_true rfl) dX3_change_2 ⟨Nat.zero_le _, Nat.zero_le _⟩ (z_i ?_)
  refine z_if_ne C 14 dX3_change_5 (by decide) (zeq_B0 _) (fun c_5 => ?_) (fun h9 => absurd h9 (by decide))
  refine z_iload_n C dX3_change_14 3 rfl ?_
  refine z_callS C (c_X3_isPrice_ok l g (wM g q th a la pe ga sz) x (by omega)) (va_cwS 1 C.ts gX3_change_X3_isPrice rfl rfl rfl (by decide +kernel) ⟨Nat.le_of_ble_eq_true rfl, Nat.le_of_ble_eq_true rfl⟩) rfl rfl (Nat.le_of_ble_eq_true rfl) dX3_change_15 ⟨Nat.zero_le _, Nat.zero_le _⟩ (z_i ?_)
  refine z_if_ne C 27 dX3_change_18 (by decide) (zeq_B0 _) (fun c_18 => ?_) (fun h9 => absurd h9 (by decide))
  refine z_aload_n C dX3_change_27 0 rfl ?_
  refine z_iload_n C dX3_change_28 1 rfl ?_
  refine z_iload_n C dX3_change_29 2 rfl ?_
  refine z_callV C (c_X3_bi_3 l g q th a la pe ga sz b (by omega)) (cwV 2 C.ts gX3_change_X3_bi rfl rfl rfl (by decide +kernel) ⟨Nat.le_of_ble_eq_true rfl, Nat.le_of_ble_eq_true rfl⟩) wM_o rfl rfl rfl (Nat.le_of_ble_eq_true rfl) dX3_change_30 ⟨Nat.zero_le _, Nat.zero_le _⟩ (z_i ?_)
  refine z_istore C dX3_change_33 (by decide) [(4, .int (nI (zWo a b))), (0, .ref (q 0)), (1, .int (nI b)), (2, .int (nI 3)), (3, .int (nI x))] rfl ?_
  refine z_aload_n C dX3_change_35 1 rfl ?_
  refine z_get C inX3_change_X3 0 wM_o rfl 6 (by decide) (C.w 1 rfl) rfl dX3_change_36 ?_
  refine z_iconst C (nI 5) dX3_change_39 (by decide) ?_
  refine z_iload_n C dX3_change_40 2 rfl ?_
  refine z_imul C dX3_change_41 (v := nI (5 * b)) (pk_mul 5 b) ?_
  refine z_iload_n C dX3_change_42 3 rfl ?_
  refine z_iadd C dX3_change_43 (v := nI ((5 * b) + 3)) (nI_add (5 * b) 3) ?_
  refine z_iload_n C dX3_change_44 4 rfl ?_
  refine z_iastN C 2 wM_rw (by omega) (by decide) dX3_change_45 (wM_set_wo b x) ?_
  refine z_iload C dX3_change_46 0 rfl ?_
  exact z_iretE C dX3_change_48 rfl ⟨_, _, _, _, rfl, h0⟩
theorem inX3_setPrice_X3 : ∀ w ∈ wsX30, w ∈ wsX3_setPrice := fun w h => List.mem_cons_of_mem _ (List.mem_append_right _ (h))
set_option maxRecDepth 100000 in
set_option maxHeartbeats 4000000 in
theorem c_X3_setPrice (l : Launch) (g : zG) (q : Nat → Nat) (th : Int) (a : zS) (la : Nat → Int) (pe : Nat → Nat) (ga : Nat → Int) (sz : Nat → Nat) (ha : zOk a) (h0 : zM0 la pe) (b x : Nat) (hb : b < zNb a) (hx : x ≤ 999) : zM g l yX3_setPrice wsX3_setPrice { frames := 3, cells := 0, slots := 0, locals := 67 } [.ref (q 0), .int (nI b), .int (nI x)] (wM g q th a la pe ga sz) (zPie (nI (zPr a b)) (zMw g q 0 (zSetPr a b x))) 0 0 := by
  refine zM.of (cc := cX3_setPrice) (nL := 3) (ret := (some .int)) (lv := [(0, .ref (q 0)), (1, .int (nI b)), (2, .int (nI x))]) (by decide) rfl (Nat.le_of_ble_eq_true rfl) rfl ?_
  intro E C0 hi
  have C : zC g E cX3_setPrice RX3 wsX3_setPrice 3 (some .int) := C0
  obtain ⟨hnf, hnd, hnb, hou, hrs, hbd⟩ := id ha
  refine z_aload_n C dX3_setPrice_0 0 rfl ?_
  refine z_iconst C (nI 0) dX3_setPrice_1 (by decide) ?_
  refine z_put C inX3_setPrice_X3 tyX3_ok nmX3 0 wM_o rfl 0 (by decide) (C.w 1 rfl) rfl (tyX3_ok 0 (by decide)) rfl rfl (Nat.le_of_ble_eq_true rfl) dX3_setPrice_2 (wM_set_th 0) ?_
  refine z_aload_n C dX3_setPrice_5 0 rfl ?_
  refine z_iload_n C dX3_setPrice_6 1 rfl ?_
  refine z_iconst C (nI 2) dX3_setPrice_7 (by decide) ?_
  refine z_iload_n C dX3_setPrice_8 2 rfl ?_
  refine z_callV C (c_X3_change_2 l g q 0 a la pe ga sz ha h0 b x (by omega) (by omega)) (cwV 3 C.ts gX3_setPrice_X3_change rfl rfl rfl (by decide +kernel) ⟨Nat.le_of_ble_eq_true rfl, Nat.le_of_ble_eq_true rfl⟩) wM_o rfl rfl rfl (Nat.le_of_ble_eq_true rfl) dX3_setPrice_9 ⟨Nat.zero_le _, Nat.zero_le _⟩ (z_ie ?_)
  rintro _ ⟨la9, pe9, ga9, sz9, rfl, hz9⟩
  exact z_iretE C dX3_setPrice_12 rfl ⟨_, _, _, _, rfl, hz9⟩
theorem inX3_setWorth_X3 : ∀ w ∈ wsX30, w ∈ wsX3_setWorth := fun w h => List.mem_cons_of_mem _ (List.mem_append_right _ (h))
set_option maxRecDepth 100000 in
set_option maxHeartbeats 4000000 in
theorem c_X3_setWorth (l : Launch) (g : zG) (q : Nat → Nat) (th : Int) (a : zS) (la : Nat → Int) (pe : Nat → Nat) (ga : Nat → Int) (sz : Nat → Nat) (ha : zOk a) (h0 : zM0 la pe) (b x : Nat) (hb : b < zNb a) (hx : x ≤ 999) : zM g l yX3_setWorth wsX3_setWorth { frames := 3, cells := 0, slots := 0, locals := 67 } [.ref (q 0), .int (nI b), .int (nI x)] (wM g q th a la pe ga sz) (zPie (nI (zWo a b)) (zMw g q 0 (zSetWo a b x))) 0 0 := by
  refine zM.of (cc := cX3_setWorth) (nL := 3) (ret := (some .int)) (lv := [(0, .ref (q 0)), (1, .int (nI b)), (2, .int (nI x))]) (by decide) rfl (Nat.le_of_ble_eq_true rfl) rfl ?_
  intro E C0 hi
  have C : zC g E cX3_setWorth RX3 wsX3_setWorth 3 (some .int) := C0
  obtain ⟨hnf, hnd, hnb, hou, hrs, hbd⟩ := id ha
  refine z_aload_n C dX3_setWorth_0 0 rfl ?_
  refine z_iconst C (nI 0) dX3_setWorth_1 (by decide) ?_
  refine z_put C inX3_setWorth_X3 tyX3_ok nmX3 0 wM_o rfl 0 (by decide) (C.w 1 rfl) rfl (tyX3_ok 0 (by decide)) rfl rfl (Nat.le_of_ble_eq_true rfl) dX3_setWorth_2 (wM_set_th 0) ?_
  refine z_aload_n C dX3_setWorth_5 0 rfl ?_
  refine z_iload_n C dX3_setWorth_6 1 rfl ?_
  refine z_iconst C (nI 3) dX3_setWorth_7 (by decide) ?_
  refine z_iload_n C dX3_setWorth_8 2 rfl ?_
  refine z_callV C (c_X3_change_3 l g q 0 a la pe ga sz ha h0 b x (by omega) (by omega)) (cwV 3 C.ts gX3_setWorth_X3_change rfl rfl rfl (by decide +kernel) ⟨Nat.le_of_ble_eq_true rfl, Nat.le_of_ble_eq_true rfl⟩) wM_o rfl rfl rfl (Nat.le_of_ble_eq_true rfl) dX3_setWorth_9 ⟨Nat.zero_le _, Nat.zero_le _⟩ (z_ie ?_)
  rintro _ ⟨la9, pe9, ga9, sz9, rfl, hz9⟩
  exact z_iretE C dX3_setWorth_12 rfl ⟨_, _, _, _, rfl, hz9⟩
theorem inX3_withdraw_X3 : ∀ w ∈ wsX30, w ∈ wsX3_withdraw := fun w h => List.mem_cons_of_mem _ (List.mem_append_right _ (h))
set_option maxRecDepth 100000 in
set_option maxHeartbeats 4000000 in
theorem c_X3_withdraw (l : Launch) (g : zG) (q : Nat → Nat) (th : Int) (a : zS) (la : Nat → Int) (pe : Nat → Nat) (ga : Nat → Int) (sz : Nat → Nat) (ha : zOk a) (h0 : zM0 la pe) (hi9 : zInv a) (b : Nat) (hb : b < zNb a) (hg : zGo a b = 0) : zM g l yX3_withdraw wsX3_withdraw { frames := 2, cells := 0, slots := 0, locals := 43 } [.ref (q 0), .int (nI b)] (wM g q th a la pe ga sz) (zPie (nI (zSum (zLof (zSetGo a b 1)) (zNd a))) (zMw g q 0 (zSetGo a b 1))) 0 0 := by
  refine zM.of (cc := cX3_withdraw) (nL := 4) (ret := (some .int)) (lv := [(0, .ref (q 0)), (1, .int (nI b))]) (by decide) rfl (Nat.le_of_ble_eq_true rfl) rfl ?_
  intro E C0 hi
  have C : zC g E cX3_withdraw RX3 wsX3_withdraw 4 (some .int) := C0
  obtain ⟨hnf, hnd, hnb, hou, hrs, hbd⟩ := id ha
  have hx2 := (zInv_setGo hi9 hb).1
  have hnb1 : zNb (zSetGo a b 1) = zNb a := rfl
  refine z_aload_n C dX3_withdraw_0 0 rfl ?_
  refine z_iconst C (nI 0) dX3_withdraw_1 (by decide) ?_
  refine z_put C inX3_withdraw_X3 tyX3_ok nmX3 0 wM_o rfl 0 (by decide) (C.w 1 rfl) rfl (tyX3_ok 0 (by decide)) rfl rfl (Nat.le_of_ble_eq_true rfl) dX3_withdraw_2 (wM_set_th 0) ?_
  refine z_aload_n C dX3_withdraw_5 0 rfl ?_
  refine z_iload_n C dX3_withdraw_6 1 rfl ?_
  refine z_callV C (c_X3_isBid_ok l g q 0 a la pe ga sz ha b (by omega)) (cwV 1 C.ts gX3_withdraw_X3_isBid rfl rfl rfl (by decide +kernel) ⟨Nat.le_of_ble_eq_true rfl, Nat.le_of_ble_eq_true rfl⟩) wM_o rfl rfl rfl (Nat.le_of_ble_eq_true rfl) dX3_withdraw_7 ⟨Nat.zero_le _, Nat.zero_le _⟩ (z_i ?_)
  refine z_if_ne C 19 dX3_withdraw_10 (by decide) (zeq_B0 _) (fun c_10 => ?_) (fun h9 => absurd h9 (by decide))
  refine z_aload_n C dX3_withdraw_19 0 rfl ?_
  refine z_iload_n C dX3_withdraw_20 1 rfl ?_
  refine z_iconst C (nI 4) dX3_withdraw_21 (by decide) ?_
  refine z_callV C (c_X3_bi_4 l g q 0 a la pe ga sz b (by omega)) (cwV 2 C.ts gX3_withdraw_X3_bi rfl rfl rfl (by decide +kernel) ⟨Nat.le_of_ble_eq_true rfl, Nat.le_of_ble_eq_true rfl⟩) wM_o rfl rfl rfl (Nat.le_of_ble_eq_true rfl) dX3_withdraw_22 ⟨Nat.zero_le _, Nat.zero_le _⟩ (z_i ?_)
  have f_22 := ha.go (b := b) (by omega)
  refine z_iconst C (nI 1) dX3_withdraw_25 (by decide) ?_
  refine z_icmp_ne C 35 dX3_withdraw_26 (by decide) (zeq_NN (by omega) (by omega)) (fun c_26 => ?_) (fun h9 => absurd h9 (by omega))
  refine z_aload_n C dX3_withdraw_35 0 rfl ?_
  refine z_get C inX3_withdraw_X3 0 wM_o rfl 6 (by decide) (C.w 2 rfl) rfl dX3_withdraw_36 ?_
  refine z_iconst C (nI 5) dX3_withdraw_39 (by decide) ?_
  refine z_iload_n C dX3_withdraw_40 1 rfl ?_
  refine z_imul C dX3_withdraw_41 (v := nI (5 * b)) (pk_mul 5 b) ?_
  refine z_iconst C (nI 4) dX3_withdraw_42 (by decide) ?_
  refine z_iadd C dX3_withdraw_43 (v := nI ((5 * b) + 4)) (nI_add (5 * b) 4) ?_
  refine z_iconst C (nI 1) dX3_withdraw_44 (by decide) ?_
  refine z_iastN C 2 wM_rw (by omega) (by decide) dX3_withdraw_45 (wM_set_go b 1) ?_
  refine z_iconst C (nI 0) dX3_withdraw_46 (by decide) ?_
  refine z_istore_n C dX3_withdraw_47 (by decide) [(2, .int (nI 0)), (0, .ref (q 0)), (1, .int (nI b))] rfl ?_
  refine z_iconst C (nI 0) dX3_withdraw_48 (by decide) ?_
  refine z_istore_n C dX3_withdraw_49 (by decide) [(3, .int (nI 0)), (2, .int (nI 0)), (0, .ref (q 0)), (1, .int (nI b))] rfl ?_
  refine zW.pick (lv' := [(0, .ref (q 0)), (1, .int (nI b)), (2, .int (nI 0)), (3, .int (nI 0))]) [2, 3, 1, 0] rfl ?_
  have hlp50 : ∀ (k i : Nat), i + k = zNb a → zW g l ({ frames := 2, cells := 0, slots := 0, locals := 43 }) E (zMQ g E (zPie (nI (zSum (zLof (zSetGo a b 1)) (zNd a))) (zMw g q 0 (zSetGo a b 1))) 0 0) 4 0 0 (wM g q 0 (zSetGo a b 1) la pe ga sz) [(0, .ref (q 0)), (1, .int (nI b)), (2, .int (nI (mLeft (zSetGo a b 1) i))), (3, .int (nI i))] [] 50 := by
    intro k
    induction k with
    | zero =>
      intro i hik
      refine z_iload_n C dX3_withdraw_50 3 rfl ?_
      refine z_aload_n C dX3_withdraw_51 0 rfl ?_
      refine z_get C inX3_withdraw_X3 0 wM_o rfl 3 (by decide) (C.w 3 rfl) rfl dX3_withdraw_52 ?_
      refine z_icmp_ge C 75 dX3_withdraw_55 (by decide) (zle_NN (by omega) (by omega)) (fun c_55 => ?_) (fun h9 => absurd (by omega) h9)
      refine z_iload_n C dX3_withdraw_75 2 rfl ?_
      exact z_iretE C dX3_withdraw_76 (by rw [show i = zNb a by omega]; exact congrArg nI (mLeft_eq hx2)) ⟨_, _, _, _, rfl, h0⟩
    | succ k ih50 =>
      intro i hik
      refine z_iload_n C dX3_withdraw_50 3 rfl ?_
      refine z_aload_n C dX3_withdraw_51 0 rfl ?_
      refine z_get C inX3_withdraw_X3 0 wM_o rfl 3 (by decide) (C.w 3 rfl) rfl dX3_withdraw_52 ?_
      refine z_icmp_ge C 75 dX3_withdraw_55 (by decide) (zle_NN (by omega) (by omega)) (fun h9 => absurd h9 (by omega)) (fun c_55 => ?_)
      refine z_iload_n C dX3_withdraw_58 2 rfl ?_
      refine z_iconst C (nI 1) dX3_withdraw_59 (by decide) ?_
      refine z_aload_n C dX3_withdraw_60 0 rfl ?_
      refine z_iload_n C dX3_withdraw_61 3 rfl ?_
      refine z_iconst C (nI 4) dX3_withdraw_62 (by decide) ?_
      refine z_callV C (c_X3_bi_4 l g q 0 (zSetGo a b 1) la pe ga sz i (by omega)) (cwV 2 C.ts gX3_withdraw_X3_bi rfl rfl rfl (by decide +kernel) ⟨Nat.le_of_ble_eq_true rfl, Nat.le_of_ble_eq_true rfl⟩) wM_o rfl rfl rfl (Nat.le_of_ble_eq_true rfl) dX3_withdraw_63 ⟨Nat.zero_le _, Nat.zero_le _⟩ (z_i ?_)
      have f_63 := hx2.go (b := i) (by omega)
      refine z_isub C dX3_withdraw_66 (v := nI (1 - (zGo (zSetGo a b 1) i))) (pk_sub (by omega)) ?_
      refine z_iadd C dX3_withdraw_67 (v := nI ((mLeft (zSetGo a b 1) i) + (1 - (zGo (zSetGo a b 1) i)))) (nI_add (mLeft (zSetGo a b 1) i) (1 - (zGo (zSetGo a b 1) i))) ?_
      refine z_istore_n C dX3_withdraw_68 (by decide) [(2, .int (nI ((mLeft (zSetGo a b 1) i) + (1 - (zGo (zSetGo a b 1) i))))), (0, .ref (q 0)), (1, .int (nI b)), (3, .int (nI i))] rfl ?_
      refine z_iinc C dX3_withdraw_69 3 (nI (i + 1)) rfl (nI_add i 1) (by decide) [(3, .int (nI (i + 1))), (2, .int (nI ((mLeft (zSetGo a b 1) i) + (1 - (zGo (zSetGo a b 1) i))))), (0, .ref (q 0)), (1, .int (nI b))] rfl ?_
      refine z_goto C 50 dX3_withdraw_72 (by decide) ?_
      refine zW.pick (lv' := [(0, .ref (q 0)), (1, .int (nI b)), (2, .int (nI ((mLeft (zSetGo a b 1) i) + (1 - (zGo (zSetGo a b 1) i))))), (3, .int (nI (i + 1)))]) [2, 3, 1, 0] rfl ?_
      refine zW.lve (lv' := [(0, .ref (q 0)), (1, .int (nI b)), (2, .int (nI (mLeft (zSetGo a b 1) (i + 1)))), (3, .int (nI (i + 1)))]) (rfl) ?_
      exact ih50 (i + 1) (by omega)
  exact hlp50 (zNb a) 0 (by omega)
