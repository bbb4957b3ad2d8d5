/-- no bundle of fields -/
def zBadM (m : Int32) (n : Nat) : Prop := m ≤ 0 ∨ nI (2 ^ n) ≤ m
theorem zcaseM (m : Int32) {n : Nat} (hn : n ≤ 8) : zBadM m n ∨ ∃ j, 0 < j ∧ j < 2 ^ n ∧ m = nI j := by
  have p8 : 2 ^ n ≤ 2 ^ 8 := zp2_le hn
  by_cases h : m ≤ 0
  · exact Or.inl (Or.inl h)
  · by_cases h2 : nI (2 ^ n) ≤ m
    · exact Or.inl (Or.inr h2)
    · refine Or.inr ?_
      rcases zcase m (n := 2 ^ n) (by omega) with h3 | ⟨j, hj, rfl⟩
      · rcases (zbad_lo (by omega)).mp h3 with h4 | h4
        · exact absurd (Int32.le_of_lt h4) h
        · exact absurd h4 h2
      · refine ⟨j, ?_, hj, rfl⟩
        rcases Nat.eq_zero_or_pos j with e | e
        · subst e; exact absurd (Int32.le_refl 0) h
        · exact e
theorem c_X3_fail0 (l : Launch) (g : zG) (q : Nat → Nat) (th : Int) (a : zS) (la : Nat → Int) (pe : Nat → Nat) (ga : Nat → Int) (sz : Nat → Nat) : True := trivial
set_option maxRecDepth 100000 in
set_option maxHeartbeats 4000000 in
theorem c_X3_field_e1 (l : Launch) (g : zG) (q : Nat → Nat) (th : Int) (a : zS) (la : Nat → Int) (pe : Nat → Nat) (ga : Nat → Int) (sz : Nat → Nat) (ha : zOk a) (h0 : zM0 la pe) (x : Int32) (hx : zBad x 100) : zM g l yX3_field wsX3_field { frames := 1, cells := 0, slots := 0, locals := 22 } [.ref (q 0), .int x] (wM g q th a la pe ga sz) (zPie (nI 0) (zMw g q 1 a)) 0 0 := by
  refine zM.of (cc := cX3_field) (nL := 2) (ret := (some .int)) (lv := [(0, .ref (q 0)), (1, .int x)]) (by decide) rfl (Nat.le_of_ble_eq_true rfl) rfl ?_
  intro E C0 hi
  have C : zC g E cX3_field RX3 wsX3_field 2 (some .int) := C0
  obtain ⟨hnf, hnd, hnb, hou, hrs, hbd⟩ := id ha
  refine z_aload_n C dX3_field_0 0 rfl ?_
  refine z_iconst C (nI 0) dX3_field_1 (by decide) ?_
  refine z_put C inX3_field_X3 tyX3_ok nmX3 0 wM_o rfl 0 (by decide) (C.w 1 rfl) rfl (tyX3_ok 0 (by decide)) rfl rfl (Nat.le_of_ble_eq_true rfl) dX3_field_2 (wM_set_th 0) ?_
  refine z_iload_n C dX3_field_5 1 rfl ?_
  refine z_iconst C (nI 0) dX3_field_6 (by decide) ?_
  refine z_bipush C (nI 99) dX3_field_7 (by decide) ?_
  refine z_callS C (c_X3_isIn_no l g (wM g q 0 a la pe ga sz) (x) (nI 0) (nI 99) (zbad_top (n := 99) (by decide) hx)) (va_cwS 3 C.ts gX3_field_X3_isIn rfl rfl rfl (by decide +kernel) ⟨Nat.le_of_ble_eq_true rfl, Nat.le_of_ble_eq_true rfl⟩) rfl rfl (Nat.le_of_ble_eq_true rfl) dX3_field_9 ⟨Nat.zero_le _, Nat.zero_le _⟩ (z_i ?_)
  refine z_if_ne C 21 dX3_field_12 (by decide) (zeq_B0 _) (fun h9 => absurd (by decide) h9) (fun c_12 => ?_)
  refine z_aload_n C dX3_field_15 0 rfl ?_
  refine z_iconst C (nI 1) dX3_field_16 (by decide) ?_
  refine z_callV C (c_X3_fail l g q 0 a la pe ga sz 1) (cwV 1 C.ts gX3_field_X3_fail rfl rfl rfl (by decide +kernel) ⟨Nat.le_of_ble_eq_true rfl, Nat.le_of_ble_eq_true rfl⟩) wM_o rfl rfl rfl (Nat.le_of_ble_eq_true rfl) dX3_field_17 ⟨Nat.zero_le _, Nat.zero_le _⟩ (z_i ?_)
  exact z_iretE C dX3_field_20 rfl ⟨_, _, _, _, rfl, h0⟩
set_option maxRecDepth 100000 in
set_option maxHeartbeats 4000000 in
theorem c_X3_field_e2 (l : Launch) (g : zG) (q : Nat → Nat) (th : Int) (a : zS) (la : Nat → Int) (pe : Nat → Nat) (ga : Nat → Int) (sz : Nat → Nat) (ha : zOk a) (h0 : zM0 la pe) (x : Nat) (hx : x ≤ 99) (hf : zNf a = 8) : zM g l yX3_field wsX3_field { frames := 1, cells := 0, slots := 0, locals := 22 } [.ref (q 0), .int (nI x)] (wM g q th a la pe ga sz) (zPie (nI 0) (zMw g q 2 a)) 0 0 := by
  refine zM.of (cc := cX3_field) (nL := 2) (ret := (some .int)) (lv := [(0, .ref (q 0)), (1, .int (nI x))]) (by decide) rfl (Nat.le_of_ble_eq_true rfl) rfl ?_
  intro E C0 hi
  have C : zC g E cX3_field RX3 wsX3_field 2 (some .int) := C0
  obtain ⟨hnf, hnd, hnb, hou, hrs, hbd⟩ := id ha
  refine z_aload_n C dX3_field_0 0 rfl ?_
  refine z_iconst C (nI 0) dX3_field_1 (by decide) ?_
  refine z_put C inX3_field_X3 tyX3_ok nmX3 0 wM_o rfl 0 (by decide) (C.w 1 rfl) rfl (tyX3_ok 0 (by decide)) rfl rfl (Nat.le_of_ble_eq_true rfl) dX3_field_2 (wM_set_th 0) ?_
  refine z_iload_n C dX3_field_5 1 rfl ?_
  refine z_iconst C (nI 0) dX3_field_6 (by decide) ?_
  refine z_bipush C (nI 99) dX3_field_7 (by decide) ?_
  refine z_callS C (c_X3_isIn_ok l g (wM g q 0 a la pe ga sz) x 0 99 (by omega) (by omega) (by omega)) (va_cwS 3 C.ts gX3_field_X3_isIn rfl rfl rfl (by decide +kernel) ⟨Nat.le_of_ble_eq_true rfl, Nat.le_of_ble_eq_true rfl⟩) rfl rfl (Nat.le_of_ble_eq_true rfl) dX3_field_9 ⟨Nat.zero_le _, Nat.zero_le _⟩ (z_i ?_)
  refine z_if_ne C 21 dX3_field_12 (by decide) (zeq_B0 _) (fun c_12 => ?_) (fun h9 => absurd h9 (by decide))
  refine z_aload_n C dX3_field_21 0 rfl ?_
  refine z_get C inX3_field_X3 0 wM_o rfl 1 (by decide) (C.w 2 rfl) rfl dX3_field_22 ?_
  refine z_bipush C (nI 8) dX3_field_25 (by decide) ?_
  refine z_icmp_ne C 36 dX3_field_27 (by decide) (zeq_NN (by omega) (by omega)) (fun h9 => absurd (by omega) h9) (fun c_27 => ?_)
  refine z_aload_n C dX3_field_30 0 rfl ?_
  refine z_iconst C (nI 2) dX3_field_31 (by decide) ?_
  refine z_callV C (c_X3_fail l g q 0 a la pe ga sz 2) (cwV 1 C.ts gX3_field_X3_fail rfl rfl rfl (by decide +kernel) ⟨Nat.le_of_ble_eq_true rfl, Nat.le_of_ble_eq_true rfl⟩) wM_o rfl rfl rfl (Nat.le_of_ble_eq_true rfl) dX3_field_32 ⟨Nat.zero_le _, Nat.zero_le _⟩ (z_i ?_)
  exact z_iretE C dX3_field_35 rfl ⟨_, _, _, _, rfl, h0⟩
set_option maxRecDepth 100000 in
set_option maxHeartbeats 4000000 in
theorem c_X3_setReserve_e1 (l : Launch) (g : zG) (q : Nat → Nat) (th : Int) (a : zS) (la : Nat → Int) (pe : Nat → Nat) (ga : Nat → Int) (sz : Nat → Nat) (ha : zOk a) (h0 : zM0 la pe) (x x2 : Int32) (hx : zBad x (zNf a)) : zM g l yX3_setReserve wsX3_setReserve { frames := 2, cells := 0, slots := 0, locals := 43 } [.ref (q 0), .int x, .int x2] (wM g q th a la pe ga sz) (zPie (nI 0) (zMw g q 1 a)) 0 0 := by
  refine zM.of (cc := cX3_setReserve) (nL := 4) (ret := (some .int)) (lv := [(0, .ref (q 0)), (1, .int x), (2, .int x2)]) (by decide) rfl (Nat.le_of_ble_eq_true rfl) rfl ?_
  intro E C0 hi
  have C : zC g E cX3_setReserve RX3 wsX3_setReserve 4 (some .int) := C0
  obtain ⟨hnf, hnd, hnb, hou, hrs, hbd⟩ := id ha
  refine z_aload_n C dX3_setReserve_0 0 rfl ?_
  refine z_iconst C (nI 0) dX3_setReserve_1 (by decide) ?_
  refine z_put C inX3_setReserve_X3 tyX3_ok nmX3 0 wM_o rfl 0 (by decide) (C.w 1 rfl) rfl (tyX3_ok 0 (by decide)) rfl rfl (Nat.le_of_ble_eq_true rfl) dX3_setReserve_2 (wM_set_th 0) ?_
  refine z_aload_n C dX3_setReserve_5 0 rfl ?_
  refine z_iload_n C dX3_setReserve_6 1 rfl ?_
  refine z_callV C (c_X3_isField_no l g q 0 a la pe ga sz ha x hx) (cwV 1 C.ts gX3_setReserve_X3_isField rfl rfl rfl (by decide +kernel) ⟨Nat.le_of_ble_eq_true rfl, Nat.le_of_ble_eq_true rfl⟩) wM_o rfl rfl rfl (Nat.le_of_ble_eq_true rfl) dX3_setReserve_7 ⟨Nat.zero_le _, Nat.zero_le _⟩ (z_i ?_)
  refine z_if_ne C 19 dX3_setReserve_10 (by decide) (zeq_B0 _) (fun h9 => absurd (by decide) h9) (fun c_10 => ?_)
  refine z_aload_n C dX3_setReserve_13 0 rfl ?_
  refine z_iconst C (nI 1) dX3_setReserve_14 (by decide) ?_
  refine z_callV C (c_X3_fail l g q 0 a la pe ga sz 1) (cwV 1 C.ts gX3_setReserve_X3_fail rfl rfl rfl (by decide +kernel) ⟨Nat.le_of_ble_eq_true rfl, Nat.le_of_ble_eq_true rfl⟩) wM_o rfl rfl rfl (Nat.le_of_ble_eq_true rfl) dX3_setReserve_15 ⟨Nat.zero_le _, Nat.zero_le _⟩ (z_i ?_)
  exact z_iretE C dX3_setReserve_18 rfl ⟨_, _, _, _, rfl, h0⟩
set_option maxRecDepth 100000 in
set_option maxHeartbeats 4000000 in
theorem c_X3_setReserve_e2 (l : Launch) (g : zG) (q : Nat → Nat) (th : Int) (a : zS) (la : Nat → Int) (pe : Nat → Nat) (ga : Nat → Int) (sz : Nat → Nat) (ha : zOk a) (h0 : zM0 la pe) (f : Nat) (x : Int32) (hf : f < zNf a) (hx : zBad x 100) : zM g l yX3_setReserve wsX3_setReserve { frames := 2, cells := 0, slots := 0, locals := 43 } [.ref (q 0), .int (nI f), .int x] (wM g q th a la pe ga sz) (zPie (nI 0) (zMw g q 2 a)) 0 0 := by
  refine zM.of (cc := cX3_setReserve) (nL := 4) (ret := (some .int)) (lv := [(0, .ref (q 0)), (1, .int (nI f)), (2, .int x)]) (by decide) rfl (Nat.le_of_ble_eq_true rfl) rfl ?_
  intro E C0 hi
  have C : zC g E cX3_setReserve RX3 wsX3_setReserve 4 (some .int) := C0
  obtain ⟨hnf, hnd, hnb, hou, hrs, hbd⟩ := id ha
  refine z_aload_n C dX3_setReserve_0 0 rfl ?_
  refine z_iconst C (nI 0) dX3_setReserve_1 (by decide) ?_
  refine z_put C inX3_setReserve_X3 tyX3_ok nmX3 0 wM_o rfl 0 (by decide) (C.w 1 rfl) rfl (tyX3_ok 0 (by decide)) rfl rfl (Nat.le_of_ble_eq_true rfl) dX3_setReserve_2 (wM_set_th 0) ?_
  refine z_aload_n C dX3_setReserve_5 0 rfl ?_
  refine z_iload_n C dX3_setReserve_6 1 rfl ?_
  refine z_callV C (c_X3_isField_ok l g q 0 a la pe ga sz ha f (by omega)) (cwV 1 C.ts gX3_setReserve_X3_isField rfl rfl rfl (by decide +kernel) ⟨Nat.le_of_ble_eq_true rfl, Nat.le_of_ble_eq_true rfl⟩) wM_o rfl rfl rfl (Nat.le_of_ble_eq_true rfl) dX3_setReserve_7 ⟨Nat.zero_le _, Nat.zero_le _⟩ (z_i ?_)
  refine z_if_ne C 19 dX3_setReserve_10 (by decide) (zeq_B0 _) (fun c_10 => ?_) (fun h9 => absurd h9 (by decide))
  refine z_iload_n C dX3_setReserve_19 2 rfl ?_
  refine z_iconst C (nI 0) dX3_setReserve_20 (by decide) ?_
  refine z_bipush C (nI 99) dX3_setReserve_21 (by decide) ?_
  refine z_callS C (c_X3_isIn_no l g (wM g q 0 a la pe ga sz) (x) (nI 0) (nI 99) (zbad_top (n := 99) (by decide) hx)) (va_cwS 3 C.ts gX3_setReserve_X3_isIn rfl rfl rfl (by decide +kernel) ⟨Nat.le_of_ble_eq_true rfl, Nat.le_of_ble_eq_true rfl⟩) rfl rfl (Nat.le_of_ble_eq_true rfl) dX3_setReserve_23 ⟨Nat.zero_le _, Nat.zero_le _⟩ (z_i ?_)
  refine z_if_ne C 35 dX3_setReserve_26 (by decide) (zeq_B0 _) (fun h9 => absurd (by decide) h9) (fun c_26 => ?_)
  refine z_aload_n C dX3_setReserve_29 0 rfl ?_
  refine z_iconst C (nI 2) dX3_setReserve_30 (by decide) ?_
  refine z_callV C (c_X3_fail l g q 0 a la pe ga sz 2) (cwV 1 C.ts gX3_setReserve_X3_fail rfl rfl rfl (by decide +kernel) ⟨Nat.le_of_ble_eq_true rfl, Nat.le_of_ble_eq_true rfl⟩) wM_o rfl rfl rfl (Nat.le_of_ble_eq_true rfl) dX3_setReserve_31 ⟨Nat.zero_le _, Nat.zero_le _⟩ (z_i ?_)
  exact z_iretE C dX3_setReserve_34 rfl ⟨_, _, _, _, rfl, h0⟩
set_option maxRecDepth 100000 in
set_option maxHeartbeats 4000000 in
theorem c_X3_join_e1 (l : Launch) (g : zG) (q : Nat → Nat) (th : Int) (a : zS) (la : Nat → Int) (pe : Nat → Nat) (ga : Nat → Int) (sz : Nat → Nat) (ha : zOk a) (h0 : zM0 la pe) (hd : zNd a = 5) : zM g l yX3_join wsX3_join { frames := 1, cells := 0, slots := 0, locals := 21 } [.ref (q 0)] (wM g q th a la pe ga sz) (zPie (nI 0) (zMw g q 1 a)) 0 0 := by
  refine zM.of (cc := cX3_join) (nL := 1) (ret := (some .int)) (lv := [(0, .ref (q 0))]) (by decide) rfl (Nat.le_of_ble_eq_true rfl) rfl ?_
  intro E C0 hi
  have C : zC g E cX3_join RX3 wsX3_join 1 (some .int) := C0
  obtain ⟨hnf, hnd, hnb, hou, hrs, hbd⟩ := id ha
  refine z_aload_n C dX3_join_0 0 rfl ?_
  refine z_iconst C (nI 0) dX3_join_1 (by decide) ?_
  refine z_put C inX3_join_X3 tyX3_ok nmX3 0 wM_o rfl 0 (by decide) (C.w 1 rfl) rfl (tyX3_ok 0 (by decide)) rfl rfl (Nat.le_of_ble_eq_true rfl) dX3_join_2 (wM_set_th 0) ?_
  refine z_aload_n C dX3_join_5 0 rfl ?_
  refine z_get C inX3_join_X3 0 wM_o rfl 2 (by decide) (C.w 2 rfl) rfl dX3_join_6 ?_
  refine z_iconst C (nI 5) dX3_join_9 (by decide) ?_
  refine z_icmp_ne C 19 dX3_join_10 (by decide) (zeq_NN (by omega) (by omega)) (fun h9 => absurd (by omega) h9) (fun c_10 => ?_)
  refine z_aload_n C dX3_join_13 0 rfl ?_
  refine z_iconst C (nI 1) dX3_join_14 (by decide) ?_
  refine z_callV C (c_X3_fail l g q 0 a la pe ga sz 1) (cwV 1 C.ts gX3_join_X3_fail rfl rfl rfl (by decide +kernel) ⟨Nat.le_of_ble_eq_true rfl, Nat.le_of_ble_eq_true rfl⟩) wM_o rfl rfl rfl (Nat.le_of_ble_eq_true rfl) dX3_join_15 ⟨Nat.zero_le _, Nat.zero_le _⟩ (z_i ?_)
  exact z_iretE C dX3_join_18 rfl ⟨_, _, _, _, rfl, h0⟩
set_option maxRecDepth 100000 in
set_option maxHeartbeats 4000000 in
theorem c_X3_setIn_e1 (l : Launch) (g : zG) (q : Nat → Nat) (th : Int) (a : zS) (la : Nat → Int) (pe : Nat → Nat) (ga : Nat → Int) (sz : Nat → Nat) (ha : zOk a) (h0 : zM0 la pe) (x x2 : Int32) (hx : zBad x (zNd a)) : zM g l yX3_setIn wsX3_setIn { frames := 2, cells := 0, slots := 0, locals := 43 } [.ref (q 0), .int x, .int x2] (wM g q th a la pe ga sz) (zPie (bI false) (zMw g q 1 a)) 0 0 := by
  refine zM.of (cc := cX3_setIn) (nL := 4) (ret := (some .boolean)) (lv := [(0, .ref (q 0)), (1, .int x), (2, .int x2)]) (by decide) rfl (Nat.le_of_ble_eq_true rfl) rfl ?_
  intro E C0 hi
  have C : zC g E cX3_setIn RX3 wsX3_setIn 4 (some .boolean) := C0
  obtain ⟨hnf, hnd, hnb, hou, hrs, hbd⟩ := id ha
  refine z_aload_n C dX3_setIn_0 0 rfl ?_
  refine z_aload_n C dX3_setIn_1 0 rfl ?_
  refine z_iload_n C dX3_setIn_2 1 rfl ?_
  refine z_callV C (c_X3_isBidder_no l g q th a la pe ga sz ha x hx) (cwV 1 C.ts gX3_setIn_X3_isBidder rfl rfl rfl (by decide +kernel) ⟨Nat.le_of_ble_eq_true rfl, Nat.le_of_ble_eq_true rfl⟩) wM_o rfl rfl rfl (Nat.le_of_ble_eq_true rfl) dX3_setIn_3 ⟨Nat.zero_le _, Nat.zero_le _⟩ (z_i ?_)
  refine z_if_eq C 13 dX3_setIn_6 (by decide) (zeq_B0 _) (fun c_6 => ?_) (fun h9 => absurd (by decide) h9)
  refine z_iconst C (nI 1) dX3_setIn_13 (by decide) ?_
  refine z_put C inX3_setIn_X3 tyX3_ok nmX3 0 wM_o rfl 0 (by decide) (C.w 1 rfl) rfl (tyX3_ok 0 (by decide)) rfl rfl (Nat.le_of_ble_eq_true rfl) dX3_setIn_14 (wM_set_th 1) ?_
  refine z_aload_n C dX3_setIn_17 0 rfl ?_
  refine z_get C inX3_setIn_X3 0 wM_o rfl 0 (by decide) (C.w 1 rfl) rfl dX3_setIn_18 ?_
  refine z_if_eq C 26 dX3_setIn_21 (by decide) (zeq_ZZ (y := 0) (by unfold zB31; omega) ⟨by decide, by decide⟩) (fun h9 => absurd h9 (by decide)) (fun c_21 => ?_)
  refine z_iconst C (nI 0) dX3_setIn_24 (by decide) ?_
  exact z_zretE C dX3_setIn_25 rfl ⟨_, _, _, _, rfl, h0⟩
set_option maxRecDepth 100000 in
set_option maxHeartbeats 4000000 in
theorem c_X3_bid_e1 (l : Launch) (g : zG) (q : Nat → Nat) (th : Int) (a : zS) (la : Nat → Int) (pe : Nat → Nat) (ga : Nat → Int) (sz : Nat → Nat) (ha : zOk a) (h0 : zM0 la pe) (x x2 x3 : Int32) (hx : zBad x (zNd a)) : zM g l yX3_bid wsX3_bid { frames := 2, cells := 0, slots := 0, locals := 60 } [.ref (q 0), .int x, .int x2, .int x3] (wM g q th a la pe ga sz) (zPie (nI 0) (zMw g q 1 a)) 0 0 := by
  refine zM.of (cc := cX3_bid) (nL := 5) (ret := (some .int)) (lv := [(0, .ref (q 0)), (1, .int x), (2, .int x2), (3, .int x3)]) (by decide) rfl (Nat.le_of_ble_eq_true rfl) rfl ?_
  intro E C0 hi
  have C : zC g E cX3_bid RX3 wsX3_bid 5 (some .int) := C0
  obtain ⟨hnf, hnd, hnb, hou, hrs, hbd⟩ := id ha
  refine z_aload_n C dX3_bid_0 0 rfl ?_
  refine z_iconst C (nI 0) dX3_bid_1 (by decide) ?_
  refine z_put C inX3_bid_X3 tyX3_ok nmX3 0 wM_o rfl 0 (by decide) (C.w 1 rfl) rfl (tyX3_ok 0 (by decide)) rfl rfl (Nat.le_of_ble_eq_true rfl) dX3_bid_2 (wM_set_th 0) ?_
  refine z_aload_n C dX3_bid_5 0 rfl ?_
  refine z_iload_n C dX3_bid_6 1 rfl ?_
  refine z_callV C (c_X3_isBidder_no l g q 0 a la pe ga sz ha x hx) (cwV 1 C.ts gX3_bid_X3_isBidder rfl rfl rfl (by decide +kernel) ⟨Nat.le_of_ble_eq_true rfl, Nat.le_of_ble_eq_true rfl⟩) wM_o rfl rfl rfl (Nat.le_of_ble_eq_true rfl) dX3_bid_7 ⟨Nat.zero_le _, Nat.zero_le _⟩ (z_i ?_)
  refine z_if_ne C 19 dX3_bid_10 (by decide) (zeq_B0 _) (fun h9 => absurd (by decide) h9) (fun c_10 => ?_)
  refine z_aload_n C dX3_bid_13 0 rfl ?_
  refine z_iconst C (nI 1) dX3_bid_14 (by decide) ?_
  refine z_callV C (c_X3_fail l g q 0 a la pe ga sz 1) (cwV 1 C.ts gX3_bid_X3_fail rfl rfl rfl (by decide +kernel) ⟨Nat.le_of_ble_eq_true rfl, Nat.le_of_ble_eq_true rfl⟩) wM_o rfl rfl rfl (Nat.le_of_ble_eq_true rfl) dX3_bid_15 ⟨Nat.zero_le _, Nat.zero_le _⟩ (z_i ?_)
  exact z_iretE C dX3_bid_18 rfl ⟨_, _, _, _, rfl, h0⟩
set_option maxRecDepth 100000 in
set_option maxHeartbeats 4000000 in
theorem c_X3_bid_e2 (l : Launch) (g : zG) (q : Nat → Nat) (th : Int) (a : zS) (la : Nat → Int) (pe : Nat → Nat) (ga : Nat → Int) (sz : Nat → Nat) (ha : zOk a) (h0 : zM0 la pe) (d : Nat) (x x2 : Int32) (hd : d < zNd a) (hx : zBadM x (zNf a)) : zM g l yX3_bid wsX3_bid { frames := 2, cells := 0, slots := 0, locals := 60 } [.ref (q 0), .int (nI d), .int x, .int x2] (wM g q th a la pe ga sz) (zPie (nI 0) (zMw g q 2 a)) 0 0 := by
  refine zM.of (cc := cX3_bid) (nL := 5) (ret := (some .int)) (lv := [(0, .ref (q 0)), (1, .int (nI d)), (2, .int x), (3, .int x2)]) (by decide) rfl (Nat.le_of_ble_eq_true rfl) rfl ?_
  intro E C0 hi
  have C : zC g E cX3_bid RX3 wsX3_bid 5 (some .int) := C0
  obtain ⟨hnf, hnd, hnb, hou, hrs, hbd⟩ := id ha
  refine z_aload_n C dX3_bid_0 0 rfl ?_
  refine z_iconst C (nI 0) dX3_bid_1 (by decide) ?_
  refine z_put C inX3_bid_X3 tyX3_ok nmX3 0 wM_o rfl 0 (by decide) (C.w 1 rfl) rfl (tyX3_ok 0 (by decide)) rfl rfl (Nat.le_of_ble_eq_true rfl) dX3_bid_2 (wM_set_th 0) ?_
  refine z_aload_n C dX3_bid_5 0 rfl ?_
  refine z_iload_n C dX3_bid_6 1 rfl ?_
  refine z_callV C (c_X3_isBidder_ok l g q 0 a la pe ga sz ha d (by omega)) (cwV 1 C.ts gX3_bid_X3_isBidder rfl rfl rfl (by decide +kernel) ⟨Nat.le_of_ble_eq_true rfl, Nat.le_of_ble_eq_true rfl⟩) wM_o rfl rfl rfl (Nat.le_of_ble_eq_true rfl) dX3_bid_7 ⟨Nat.zero_le _, Nat.zero_le _⟩ (z_i ?_)
  refine z_if_ne C 19 dX3_bid_10 (by decide) (zeq_B0 _) (fun c_10 => ?_) (fun h9 => absurd h9 (by decide))
  refine z_iload_n C dX3_bid_19 2 rfl ?_
  refine z_if_le C 40 dX3_bid_20 (by decide) Iff.rfl (fun c_20 => ?_) (fun c_20 => ?_)
  · skip
    refine z_aload_n C dX3_bid_40 0 rfl ?_
    refine z_iconst C (nI 2) dX3_bid_41 (by decide) ?_
    refine z_callV C (c_X3_fail l g q 0 a la pe ga sz 2) (cwV 1 C.ts gX3_bid_X3_fail rfl rfl rfl (by decide +kernel) ⟨Nat.le_of_ble_eq_true rfl, Nat.le_of_ble_eq_true rfl⟩) wM_o rfl rfl rfl (Nat.le_of_ble_eq_true rfl) dX3_bid_42 ⟨Nat.zero_le _, Nat.zero_le _⟩ (z_i ?_)
    exact z_iretE C dX3_bid_45 rfl ⟨_, _, _, _, rfl, h0⟩
  · skip
    refine z_iload_n C dX3_bid_23 2 rfl ?_
    refine z_iconst C (nI 1) dX3_bid_24 (by decide) ?_
    refine z_aload_n C dX3_bid_25 0 rfl ?_
    refine z_get C inX3_bid_X3 0 wM_o rfl 1 (by decide) (C.w 2 rfl) rfl dX3_bid_26 ?_
    refine z_ishl C dX3_bid_29 (v := nI (2 ^ (zNf a))) (zshl_1N (by omega)) ?_
    refine z_icmp_ge C 40 dX3_bid_30 (by decide) Iff.rfl (fun c_30 => ?_) (fun h9 => absurd (hx.resolve_left c_20) h9)
    refine z_aload_n C dX3_bid_40 0 rfl ?_
    refine z_iconst C (nI 2) dX3_bid_41 (by decide) ?_
    refine z_callV C (c_X3_fail l g q 0 a la pe ga sz 2) (cwV 1 C.ts gX3_bid_X3_fail rfl rfl rfl (by decide +kernel) ⟨Nat.le_of_ble_eq_true rfl, Nat.le_of_ble_eq_true rfl⟩) wM_o rfl rfl rfl (Nat.le_of_ble_eq_true rfl) dX3_bid_42 ⟨Nat.zero_le _, Nat.zero_le _⟩ (z_i ?_)
    exact z_iretE C dX3_bid_45 rfl ⟨_, _, _, _, rfl, h0⟩
set_option maxRecDepth 100000 in
set_option maxHeartbeats 4000000 in
theorem c_X3_bid_e3 (l : Launch) (g : zG) (q : Nat → Nat) (th : Int) (a : zS) (la : Nat → Int) (pe : Nat → Nat) (ga : Nat → Int) (sz : Nat → Nat) (ha : zOk a) (h0 : zM0 la pe) (d m : Nat) (x : Int32) (hd : d < zNd a) (hm0 : 0 < m) (hm : m < 2 ^ zNf a) (hx : zBad x 1000) : zM g l yX3_bid wsX3_bid { frames := 2, cells := 0, slots := 0, locals := 60 } [.ref (q 0), .int (nI d), .int (nI m), .int x] (wM g q th a la pe ga sz) (zPie (nI 0) (zMw g q 2 a)) 0 0 := by
  refine zM.of (cc := cX3_bid) (nL := 5) (ret := (some .int)) (lv := [(0, .ref (q 0)), (1, .int (nI d)), (2, .int (nI m)), (3, .int x)]) (by decide) rfl (Nat.le_of_ble_eq_true rfl) rfl ?_
  intro E C0 hi
  have C : zC g E cX3_bid RX3 wsX3_bid 5 (some .int) := C0
  obtain ⟨hnf, hnd, hnb, hou, hrs, hbd⟩ := id ha
  refine z_aload_n C dX3_bid_0 0 rfl ?_
  refine z_iconst C (nI 0) dX3_bid_1 (by decide) ?_
  refine z_put C inX3_bid_X3 tyX3_ok nmX3 0 wM_o rfl 0 (by decide) (C.w 1 rfl) rfl (tyX3_ok 0 (by decide)) rfl rfl (Nat.le_of_ble_eq_true rfl) dX3_bid_2 (wM_set_th 0) ?_
  refine z_aload_n C dX3_bid_5 0 rfl ?_
  refine z_iload_n C dX3_bid_6 1 rfl ?_
  refine z_callV C (c_X3_isBidder_ok l g q 0 a la pe ga sz ha d (by omega)) (cwV 1 C.ts gX3_bid_X3_isBidder rfl rfl rfl (by decide +kernel) ⟨Nat.le_of_ble_eq_true rfl, Nat.le_of_ble_eq_true rfl⟩) wM_o rfl rfl rfl (Nat.le_of_ble_eq_true rfl) dX3_bid_7 ⟨Nat.zero_le _, Nat.zero_le _⟩ (z_i ?_)
  refine z_if_ne C 19 dX3_bid_10 (by decide) (zeq_B0 _) (fun c_10 => ?_) (fun h9 => absurd h9 (by decide))
  refine z_iload_n C dX3_bid_19 2 rfl ?_
  refine z_if_le C 40 dX3_bid_20 (by decide) (zle_N0 (by have p8 : 2 ^ zNf a ≤ 2 ^ 8 := zp2_le hnf; omega)) (fun h9 => absurd h9 (by omega)) (fun c_20 => ?_)
  refine z_iload_n C dX3_bid_23 2 rfl ?_
  refine z_iconst C (nI 1) dX3_bid_24 (by decide) ?_
  refine z_aload_n C dX3_bid_25 0 rfl ?_
  refine z_get C inX3_bid_X3 0 wM_o rfl 1 (by decide) (C.w 2 rfl) rfl dX3_bid_26 ?_
  refine z_ishl C dX3_bid_29 (v := nI (2 ^ (zNf a))) (zshl_1N (by omega)) ?_
  refine z_icmp_ge C 40 dX3_bid_30 (by decide) (zle_NN (by have p8 : 2 ^ zNf a ≤ 2 ^ 8 := zp2_le hnf; omega) (by have p8 : 2 ^ zNf a ≤ 2 ^ 8 := zp2_le hnf; omega)) (fun h9 => absurd h9 (by have p8 : 2 ^ zNf a ≤ 2 ^ 8 := zp2_le hnf; omega)) (fun c_30 => ?_)
  refine z_iload_n C dX3_bid_33 3 rfl ?_
  refine z_callS C (c_X3_isPrice_no l g (wM g q 0 a la pe ga sz) x hx) (va_cwS 1 C.ts gX3_bid_X3_isPrice rfl rfl rfl (by decide +kernel) ⟨Nat.le_of_ble_eq_true rfl, Nat.le_of_ble_eq_true rfl⟩) rfl rfl (Nat.le_of_ble_eq_true rfl) dX3_bid_34 ⟨Nat.zero_le _, Nat.zero_le _⟩ (z_i ?_)
  refine z_if_ne C 46 dX3_bid_37 (by decide) (zeq_B0 _) (fun h9 => absurd (by decide) h9) (fun c_37 => ?_)
  refine z_aload_n C dX3_bid_40 0 rfl ?_
  refine z_iconst C (nI 2) dX3_bid_41 (by decide) ?_
  refine z_callV C (c_X3_fail l g q 0 a la pe ga sz 2) (cwV 1 C.ts gX3_bid_X3_fail rfl rfl rfl (by decide +kernel) ⟨Nat.le_of_ble_eq_true rfl, Nat.le_of_ble_eq_true rfl⟩) wM_o rfl rfl rfl (Nat.le_of_ble_eq_true rfl) dX3_bid_42 ⟨Nat.zero_le _, Nat.zero_le _⟩ (z_i ?_)
  exact z_iretE C dX3_bid_45 rfl ⟨_, _, _, _, rfl, h0⟩
set_option maxRecDepth 100000 in
set_option maxHeartbeats 4000000 in
theorem c_X3_bid_e4 (l : Launch) (g : zG) (q : Nat → Nat) (th : Int) (a : zS) (la : Nat → Int) (pe : Nat → Nat) (ga : Nat → Int) (sz : Nat → Nat) (ha : zOk a) (h0 : zM0 la pe) (d m x : Nat) (hd : d < zNd a) (hm0 : 0 < m) (hm : m < 2 ^ zNf a) (hx : x ≤ 999) (hb : zNb a = 12) : zM g l yX3_bid wsX3_bid { frames := 2, cells := 0, slots := 0, locals := 60 } [.ref (q 0), .int (nI d), .int (nI m), .int (nI x)] (wM g q th a la pe ga sz) (zPie (nI 0) (zMw g q 3 a)) 0 0 := by
  refine zM.of (cc := cX3_bid) (nL := 5) (ret := (some .int)) (lv := [(0, .ref (q 0)), (1, .int (nI d)), (2, .int (nI m)), (3, .int (nI x))]) (by decide) rfl (Nat.le_of_ble_eq_true rfl) rfl ?_
  intro E C0 hi
  have C : zC g E cX3_bid RX3 wsX3_bid 5 (some .int) := C0
  obtain ⟨hnf, hnd, hnb, hou, hrs, hbd⟩ := id ha
  refine z_aload_n C dX3_bid_0 0 rfl ?_
  refine z_iconst C (nI 0) dX3_bid_1 (by decide) ?_
  refine z_put C inX3_bid_X3 tyX3_ok nmX3 0 wM_o rfl 0 (by decide) (C.w 1 rfl) rfl (tyX3_ok 0 (by decide)) rfl rfl (Nat.le_of_ble_eq_true rfl) dX3_bid_2 (wM_set_th 0) ?_
  refine z_aload_n C dX3_bid_5 0 rfl ?_
  refine z_iload_n C dX3_bid_6 1 rfl ?_
  refine z_callV C (c_X3_isBidder_ok l g q 0 a la pe ga sz ha d (by omega)) (cwV 1 C.ts gX3_bid_X3_isBidder rfl rfl rfl (by decide +kernel) ⟨Nat.le_of_ble_eq_true rfl, Nat.le_of_ble_eq_true rfl⟩) wM_o rfl rfl rfl (Nat.le_of_ble_eq_true rfl) dX3_bid_7 ⟨Nat.zero_le _, Nat.zero_le _⟩ (z_i ?_)
  refine z_if_ne C 19 dX3_bid_10 (by decide) (zeq_B0 _) (fun c_10 => ?_) (fun h9 => absurd h9 (by decide))
  refine z_iload_n C dX3_bid_19 2 rfl ?_
  refine z_if_le C 40 dX3_bid_20 (by decide) (zle_N0 (by have p8 : 2 ^ zNf a ≤ 2 ^ 8 := zp2_le hnf; omega)) (fun h9 => absurd h9 (by omega)) (fun c_20 => ?_)
  refine z_iload_n C dX3_bid_23 2 rfl ?_
  refine z_iconst C (nI 1) dX3_bid_24 (by decide) ?_
  refine z_aload_n C dX3_bid_25 0 rfl ?_
  refine z_get C inX3_bid_X3 0 wM_o rfl 1 (by decide) (C.w 2 rfl) rfl dX3_bid_26 ?_
  refine z_ishl C dX3_bid_29 (v := nI (2 ^ (zNf a))) (zshl_1N (by omega)) ?_
  refine z_icmp_ge C 40 dX3_bid_30 (by decide) (zle_NN (by have p8 : 2 ^ zNf a ≤ 2 ^ 8 := zp2_le hnf; omega) (by have p8 : 2 ^ zNf a ≤ 2 ^ 8 := zp2_le hnf; omega)) (fun h9 => absurd h9 (by have p8 : 2 ^ zNf a ≤ 2 ^ 8 := zp2_le hnf; omega)) (fun c_30 => ?_)
  refine z_iload_n C dX3_bid_33 3 rfl ?_
  refine z_callS C (c_X3_isPrice_ok l g (wM g q 0 a la pe ga sz) x (by omega)) (va_cwS 1 C.ts gX3_bid_X3_isPrice rfl rfl rfl (by decide +kernel) ⟨Nat.le_of_ble_eq_true rfl, Nat.le_of_ble_eq_true rfl⟩) rfl rfl (Nat.le_of_ble_eq_true rfl) dX3_bid_34 ⟨Nat.zero_le _, Nat.zero_le _⟩ (z_i ?_)
  refine z_if_ne C 46 dX3_bid_37 (by decide) (zeq_B0 _) (fun c_37 => ?_) (fun h9 => absurd h9 (by decide))
  refine z_aload_n C dX3_bid_46 0 rfl ?_
  refine z_get C inX3_bid_X3 0 wM_o rfl 3 (by decide) (C.w 3 rfl) rfl dX3_bid_47 ?_
  refine z_bipush C (nI 12) dX3_bid_50 (by decide) ?_
  refine z_icmp_ne C 61 dX3_bid_52 (by decide) (zeq_NN (by omega) (by omega)) (fun h9 => absurd (by omega) h9) (fun c_52 => ?_)
  refine z_aload_n C dX3_bid_55 0 rfl ?_
  refine z_iconst C (nI 3) dX3_bid_56 (by decide) ?_
  refine z_callV C (c_X3_fail l g q 0 a la pe ga sz 3) (cwV 1 C.ts gX3_bid_X3_fail rfl rfl rfl (by decide +kernel) ⟨Nat.le_of_ble_eq_true rfl, Nat.le_of_ble_eq_true rfl⟩) wM_o rfl rfl rfl (Nat.le_of_ble_eq_true rfl) dX3_bid_57 ⟨Nat.zero_le _, Nat.zero_le _⟩ (z_i ?_)
  exact z_iretE C dX3_bid_60 rfl ⟨_, _, _, _, rfl, h0⟩
set_option maxRecDepth 100000 in
set_option maxHeartbeats 4000000 in
theorem c_X3_change_2e1 (l : Launch) (g : zG) (q : Nat → Nat) (th : Int) (a : zS) (la : Nat → Int) (pe : Nat → Nat) (ga : Nat → Int) (sz : Nat → Nat) (ha : zOk a) (h0 : zM0 la pe) (x x2 : Int32) (hx : zBad x (zNb a)) : zM g l yX3_change wsX3_change { frames := 2, cells := 0, slots := 0, locals := 43 } [.ref (q 0), .int x, .int (nI 2), .int x2] (wM g q th a la pe ga sz) (zPie (nI 0) (zMw g q 1 a)) 0 0 := by
  refine zM.of (cc := cX3_change) (nL := 5) (ret := (some .int)) (lv := [(0, .ref (q 0)), (1, .int x), (2, .int (nI 2)), (3, .int x2)]) (by decide) rfl (Nat.le_of_ble_eq_true rfl) rfl ?_
  intro E C0 hi
  have C : zC g E cX3_change RX3 wsX3_change 5 (some .int) := C0
  obtain ⟨hnf, hnd, hnb, hou, hrs, hbd⟩ := id ha
  refine z_aload_n C dX3_change_0 0 rfl ?_
  refine z_iload_n C dX3_change_1 1 rfl ?_
  refine z_callV C (c_X3_isBid_no l g q th a la pe ga sz ha x hx) (cwV 1 C.ts gX3_change_X3_isBid rfl rfl rfl (by decide +kernel) ⟨Nat.le_of_ble_eq_true rfl, Nat.le_of_ble_eq_true rfl⟩) wM_o rfl rfl rfl (Nat.le_of_ble_eq_true rfl) dX3_change_2 ⟨Nat.zero_le _, Nat.zero_le _⟩ (z_i ?_)
  refine z_if_ne C 14 dX3_change_5 (by decide) (zeq_B0 _) (fun h9 => absurd (by decide) h9) (fun c_5 => ?_)
  refine z_aload_n C dX3_change_8 0 rfl ?_
  refine z_iconst C (nI 1) dX3_change_9 (by decide) ?_
  refine z_callV C (c_X3_fail l g q th a la pe ga sz 1) (cwV 1 C.ts gX3_change_X3_fail rfl rfl rfl (by decide +kernel) ⟨Nat.le_of_ble_eq_true rfl, Nat.le_of_ble_eq_true rfl⟩) wM_o rfl rfl rfl (Nat.le_of_ble_eq_true rfl) dX3_change_10 ⟨Nat.zero_le _, Nat.zero_le _⟩ (z_i ?_)
  exact z_iretE C dX3_change_13 rfl ⟨_, _, _, _, rfl, h0⟩
set_option maxRecDepth 100000 in
set_option maxHeartbeats 4000000 in
theorem c_X3_change_2e2 (l : Launch) (g : zG) (q : Nat → Nat) (th : Int) (a : zS) (la : Nat → Int) (pe : Nat → Nat) (ga : Nat → Int) (sz : Nat → Nat) (ha : zOk a) (h0 : zM0 la pe) (b : Nat) (x2 : Int32) (hb : b < zNb a) (hx : zBad x2 1000) : zM g l yX3_change wsX3_change { frames := 2, cells := 0, slots := 0, locals := 43 } [.ref (q 0), .int (nI b), .int (nI 2), .int x2] (wM g q th a la pe ga sz) (zPie (nI 0) (zMw g q 2 a)) 0 0 := by
  refine zM.of (cc := cX3_change) (nL := 5) (ret := (some .int)) (lv := [(0, .ref (q 0)), (1, .int (nI b)), (2, .int (nI 2)), (3, .int x2)]) (by decide) rfl (Nat.le_of_ble_eq_true rfl) rfl ?_
  intro E C0 hi
  have C : zC g E cX3_change RX3 wsX3_change 5 (some .int) := C0
  obtain ⟨hnf, hnd, hnb, hou, hrs, hbd⟩ := id ha
  refine z_aload_n C dX3_change_0 0 rfl ?_
  refine z_iload_n C dX3_change_1 1 rfl ?_
  refine z_callV C (c_X3_isBid_ok l g q th a la pe ga sz ha b (by omega)) (cwV 1 C.ts gX3_change_X3_isBid rfl rfl rfl (by decide +kernel) ⟨Nat.le_of_ble_eq_true rfl, Nat.le_of_ble_eq_true rfl⟩) wM_o rfl rfl rfl (Nat.le_of_ble_eq_true rfl) dX3_change_2 ⟨Nat.zero_le _, Nat.zero_le _⟩ (z_i ?_)
  refine z_if_ne C 14 dX3_change_5 (by decide) (zeq_B0 _) (fun c_5 => ?_) (fun h9 => absurd h9 (by decide))
  refine z_iload_n C dX3_change_14 3 rfl ?_
  refine z_callS C (c_X3_isPrice_no l g (wM g q th a la pe ga sz) x2 hx) (va_cwS 1 C.ts gX3_change_X3_isPrice rfl rfl rfl (by decide +kernel) ⟨Nat.le_of_ble_eq_true rfl, Nat.le_of_ble_eq_true rfl⟩) rfl rfl (Nat.le_of_ble_eq_true rfl) dX3_change_15 ⟨Nat.zero_le _, Nat.zero_le _⟩ (z_i ?_)
  refine z_if_ne C 27 dX3_change_18 (by decide) (zeq_B0 _) (fun h9 => absurd (by decide) h9) (fun c_18 => ?_)
  refine z_aload_n C dX3_change_21 0 rfl ?_
  refine z_iconst C (nI 2) dX3_change_22 (by decide) ?_
  refine z_callV C (c_X3_fail l g q th a la pe ga sz 2) (cwV 1 C.ts gX3_change_X3_fail rfl rfl rfl (by decide +kernel) ⟨Nat.le_of_ble_eq_true rfl, Nat.le_of_ble_eq_true rfl⟩) wM_o rfl rfl rfl (Nat.le_of_ble_eq_true rfl) dX3_change_23 ⟨Nat.zero_le _, Nat.zero_le _⟩ (z_i ?_)
  exact z_iretE C dX3_change_26 rfl ⟨_, _, _, _, rfl, h0⟩
set_option maxRecDepth 100000 in
set_option maxHeartbeats 4000000 in
theorem c_X3_setPrice_e1 (l : Launch) (g : zG) (q : Nat → Nat) (th : Int) (a : zS) (la : Nat → Int) (pe : Nat → Nat) (ga : Nat → Int) (sz : Nat → Nat) (ha : zOk a) (h0 : zM0 la pe) (x x2 : Int32) (hx : zBad x (zNb a)) : zM g l yX3_setPrice wsX3_setPrice { frames := 3, cells := 0, slots := 0, locals := 67 } [.ref (q 0), .int x, .int x2] (wM g q th a la pe ga sz) (zPie (nI 0) (zMw g q 1 a)) 0 0 := by
  refine zM.of (cc := cX3_setPrice) (nL := 3) (ret := (some .int)) (lv := [(0, .ref (q 0)), (1, .int x), (2, .int x2)]) (by decide) rfl (Nat.le_of_ble_eq_true rfl) rfl ?_
  intro E C0 hi
  have C : zC g E cX3_setPrice RX3 wsX3_setPrice 3 (some .int) := C0
  obtain ⟨hnf, hnd, hnb, hou, hrs, hbd⟩ := id ha
  refine z_aload_n C dX3_setPrice_0 0 rfl ?_
  refine z_iconst C (nI 0) dX3_setPrice_1 (by decide) ?_
  refine z_put C inX3_setPrice_X3 tyX3_ok nmX3 0 wM_o rfl 0 (by decide) (C.w 1 rfl) rfl (tyX3_ok 0 (by decide)) rfl rfl (Nat.le_of_ble_eq_true rfl) dX3_setPrice_2 (wM_set_th 0) ?_
  refine z_aload_n C dX3_setPrice_5 0 rfl ?_
  refine z_iload_n C dX3_setPrice_6 1 rfl ?_
  refine z_iconst C (nI 2) dX3_setPrice_7 (by decide) ?_
  refine z_iload_n C dX3_setPrice_8 2 rfl ?_
  refine z_callV C (c_X3_change_2e1 l g q 0 a la pe ga sz ha h0 x x2 hx) (cwV 3 C.ts gX3_setPrice_X3_change rfl rfl rfl (by decide +kernel) ⟨Nat.le_of_ble_eq_true rfl, Nat.le_of_ble_eq_true rfl⟩) wM_o rfl rfl rfl (Nat.le_of_ble_eq_true rfl) dX3_setPrice_9 ⟨Nat.zero_le _, Nat.zero_le _⟩ (z_ie ?_)
  rintro _ ⟨la9, pe9, ga9, sz9, rfl, hz9⟩
  exact z_iretE C dX3_setPrice_12 rfl ⟨_, _, _, _, rfl, hz9⟩
set_option maxRecDepth 100000 in
set_option maxHeartbeats 4000000 in
theorem c_X3_setPrice_e2 (l : Launch) (g : zG) (q : Nat → Nat) (th : Int) (a : zS) (la : Nat → Int) (pe : Nat → Nat) (ga : Nat → Int) (sz : Nat → Nat) (ha : zOk a) (h0 : zM0 la pe) (b : Nat) (x2 : Int32) (hb : b < zNb a) (hx : zBad x2 1000) : zM g l yX3_setPrice wsX3_setPrice { frames := 3, cells := 0, slots := 0, locals := 67 } [.ref (q 0), .int (nI b), .int x2] (wM g q th a la pe ga sz) (zPie (nI 0) (zMw g q 2 a)) 0 0 := by
  refine zM.of (cc := cX3_setPrice) (nL := 3) (ret := (some .int)) (lv := [(0, .ref (q 0)), (1, .int (nI b)), (2, .int x2)]) (by decide) rfl (Nat.le_of_ble_eq_true rfl) rfl ?_
  intro E C0 hi
  have C : zC g E cX3_setPrice RX3 wsX3_setPrice 3 (some .int) := C0
  obtain ⟨hnf, hnd, hnb, hou, hrs, hbd⟩ := id ha
  refine z_aload_n C dX3_setPrice_0 0 rfl ?_
  refine z_iconst C (nI 0) dX3_setPrice_1 (by decide) ?_
  refine z_put C inX3_setPrice_X3 tyX3_ok nmX3 0 wM_o rfl 0 (by decide) (C.w 1 rfl) rfl (tyX3_ok 0 (by decide)) rfl rfl (Nat.le_of_ble_eq_true rfl) dX3_setPrice_2 (wM_set_th 0) ?_
  refine z_aload_n C dX3_setPrice_5 0 rfl ?_
  refine z_iload_n C dX3_setPrice_6 1 rfl ?_
  refine z_iconst C (nI 2) dX3_setPrice_7 (by decide) ?_
  refine z_iload_n C dX3_setPrice_8 2 rfl ?_
  refine z_callV C (c_X3_change_2e2 l g q 0 a la pe ga sz ha h0 b x2 hb hx) (cwV 3 C.ts gX3_setPrice_X3_change rfl rfl rfl (by decide +kernel) ⟨Nat.le_of_ble_eq_true rfl, Nat.le_of_ble_eq_true rfl⟩) wM_o rfl rfl rfl (Nat.le_of_ble_eq_true rfl) dX3_setPrice_9 ⟨Nat.zero_le _, Nat.zero_le _⟩ (z_ie ?_)
  rintro _ ⟨la9, pe9, ga9, sz9, rfl, hz9⟩
  exact z_iretE C dX3_setPrice_12 rfl ⟨_, _, _, _, rfl, hz9⟩
set_option maxRecDepth 100000 in
set_option maxHeartbeats 4000000 in
theorem c_X3_change_3e1 (l : Launch) (g : zG) (q : Nat → Nat) (th : Int) (a : zS) (la : Nat → Int) (pe : Nat → Nat) (ga : Nat → Int) (sz : Nat → Nat) (ha : zOk a) (h0 : zM0 la pe) (x x2 : Int32) (hx : zBad x (zNb a)) : zM g l yX3_change wsX3_change { frames := 2, cells := 0, slots := 0, locals := 43 } [.ref (q 0), .int x, .int (nI 3), .int x2] (wM g q th a la pe ga sz) (zPie (nI 0) (zMw g q 1 a)) 0 0 := by
  refine zM.of (cc := cX3_change) (nL := 5) (ret := (some .int)) (lv := [(0, .ref (q 0)), (1, .int x), (2, .int (nI 3)), (3, .int x2)]) (by decide) rfl (Nat.le_of_ble_eq_true rfl) rfl ?_
  intro E C0 hi
  have C : zC g E cX3_change RX3 wsX3_change 5 (some .int) := C0
  obtain ⟨hnf, hnd, hnb, hou, hrs, hbd⟩ := id ha
  refine z_aload_n C dX3_change_0 0 rfl ?_
  refine z_iload_n C dX3_change_1 1 rfl ?_
  refine z_callV C (c_X3_isBid_no l g q th a la pe ga sz ha x hx) (cwV 1 C.ts gX3_change_X3_isBid rfl rfl rfl (by decide +kernel) ⟨Nat.le_of_ble_eq_true rfl, Nat.le_of_ble_eq_true rfl⟩) wM_o rfl rfl rfl (Nat.le_of_ble_eq_true rfl) dX3_change_2 ⟨Nat.zero_le _, Nat.zero_le _⟩ (z_i ?_)
  refine z_if_ne C 14 dX3_change_5 (by decide) (zeq_B0 _) (fun h9 => absurd (by decide) h9) (fun c_5 => ?_)
  refine z_aload_n C dX3_change_8 0 rfl ?_
  refine z_iconst C (nI 1) dX3_change_9 (by decide) ?_
  refine z_callV C (c_X3_fail l g q th a la pe ga sz 1) (cwV 1 C.ts gX3_change_X3_fail rfl rfl rfl (by decide +kernel) ⟨Nat.le_of_ble_eq_true rfl, Nat.le_of_ble_eq_true rfl⟩) wM_o rfl rfl rfl (Nat.le_of_ble_eq_true rfl) dX3_change_10 ⟨Nat.zero_le _, Nat.zero_le _⟩ (z_i ?_)
  exact z_iretE C dX3_change_13 rfl ⟨_, _, _, _, rfl, h0⟩
set_option maxRecDepth 100000 in
set_option maxHeartbeats 4000000 in
theorem c_X3_change_3e2 (l : Launch) (g : zG) (q : Nat → Nat) (th : Int) (a : zS) (la : Nat → Int) (pe : Nat → Nat) (ga : Nat → Int) (sz : Nat → Nat) (ha : zOk a) (h0 : zM0 la pe) (b : Nat) (x2 : Int32) (hb : b < zNb a) (hx : zBad x2 1000) : zM g l yX3_change wsX3_change { frames := 2, cells := 0, slots := 0, locals := 43 } [.ref (q 0), .int (nI b), .int (nI 3), .int x2] (wM g q th a la pe ga sz) (zPie (nI 0) (zMw g q 2 a)) 0 0 := by
  refine zM.of (cc := cX3_change) (nL := 5) (ret := (some .int)) (lv := [(0, .ref (q 0)), (1, .int (nI b)), (2, .int (nI 3)), (3, .int x2)]) (by decide) rfl (Nat.le_of_ble_eq_true rfl) rfl ?_
  intro E C0 hi
  have C : zC g E cX3_change RX3 wsX3_change 5 (some .int) := C0
  obtain ⟨hnf, hnd, hnb, hou, hrs, hbd⟩ := id ha
  refine z_aload_n C dX3_change_0 0 rfl ?_
  refine z_iload_n C dX3_change_1 1 rfl ?_
  refine z_callV C (c_X3_isBid_ok l g q th a la pe ga sz ha b (by omega)) (cwV 1 C.ts gX3_change_X3_isBid rfl rfl rfl (by decide +kernel) ⟨Nat.le_of_ble_eq_true rfl, Nat.le_of_ble_eq_true rfl⟩) wM_o rfl rfl rfl (Nat.le_of_ble_eq_true rfl) dX3_change_2 ⟨Nat.zero_le _, Nat.zero_le _⟩ (z_i ?_)
  refine z_if_ne C 14 dX3_change_5 (by decide) (zeq_B0 _) (fun c_5 => ?_) (fun h9 => absurd h9 (by decide))
  refine z_iload_n C dX3_change_14 3 rfl ?_
  refine z_callS C (c_X3_isPrice_no l g (wM g q th a la pe ga sz) x2 hx) (va_cwS 1 C.ts gX3_change_X3_isPrice rfl rfl rfl (by decide +kernel) ⟨Nat.le_of_ble_eq_true rfl, Nat.le_of_ble_eq_true rfl⟩) rfl rfl (Nat.le_of_ble_eq_true rfl) dX3_change_15 ⟨Nat.zero_le _, Nat.zero_le _⟩ (z_i ?_)
  refine z_if_ne C 27 dX3_change_18 (by decide) (zeq_B0 _) (fun h9 => absurd (by decide) h9) (fun c_18 => ?_)
  refine z_aload_n C dX3_change_21 0 rfl ?_
  refine z_iconst C (nI 2) dX3_change_22 (by decide) ?_
  refine z_callV C (c_X3_fail l g q th a la pe ga sz 2) (cwV 1 C.ts gX3_change_X3_fail rfl rfl rfl (by decide +kernel) ⟨Nat.le_of_ble_eq_true rfl, Nat.le_of_ble_eq_true rfl⟩) wM_o rfl rfl rfl (Nat.le_of_ble_eq_true rfl) dX3_change_23 ⟨Nat.zero_le _, Nat.zero_le _⟩ (z_i ?_)
  exact z_iretE C dX3_change_26 rfl ⟨_, _, _, _, rfl, h0⟩
set_option maxRecDepth 100000 in
set_option maxHeartbeats 4000000 in
theorem c_X3_setWorth_e1 (l : Launch) (g : zG) (q : Nat → Nat) (th : Int) (a : zS) (la : Nat → Int) (pe : Nat → Nat) (ga : Nat → Int) (sz : Nat → Nat) (ha : zOk a) (h0 : zM0 la pe) (x x2 : Int32) (hx : zBad x (zNb a)) : zM g l yX3_setWorth wsX3_setWorth { frames := 3, cells := 0, slots := 0, locals := 67 } [.ref (q 0), .int x, .int x2] (wM g q th a la pe ga sz) (zPie (nI 0) (zMw g q 1 a)) 0 0 := by
  refine zM.of (cc := cX3_setWorth) (nL := 3) (ret := (some .int)) (lv := [(0, .ref (q 0)), (1, .int x), (2, .int x2)]) (by decide) rfl (Nat.le_of_ble_eq_true rfl) rfl ?_
  intro E C0 hi
  have C : zC g E cX3_setWorth RX3 wsX3_setWorth 3 (some .int) := C0
  obtain ⟨hnf, hnd, hnb, hou, hrs, hbd⟩ := id ha
  refine z_aload_n C dX3_setWorth_0 0 rfl ?_
  refine z_iconst C (nI 0) dX3_setWorth_1 (by decide) ?_
  refine z_put C inX3_setWorth_X3 tyX3_ok nmX3 0 wM_o rfl 0 (by decide) (C.w 1 rfl) rfl (tyX3_ok 0 (by decide)) rfl rfl (Nat.le_of_ble_eq_true rfl) dX3_setWorth_2 (wM_set_th 0) ?_
  refine z_aload_n C dX3_setWorth_5 0 rfl ?_
  refine z_iload_n C dX3_setWorth_6 1 rfl ?_
  refine z_iconst C (nI 3) dX3_setWorth_7 (by decide) ?_
  refine z_iload_n C dX3_setWorth_8 2 rfl ?_
  refine z_callV C (c_X3_change_3e1 l g q 0 a la pe ga sz ha h0 x x2 hx) (cwV 3 C.ts gX3_setWorth_X3_change rfl rfl rfl (by decide +kernel) ⟨Nat.le_of_ble_eq_true rfl, Nat.le_of_ble_eq_true rfl⟩) wM_o rfl rfl rfl (Nat.le_of_ble_eq_true rfl) dX3_setWorth_9 ⟨Nat.zero_le _, Nat.zero_le _⟩ (z_ie ?_)
  rintro _ ⟨la9, pe9, ga9, sz9, rfl, hz9⟩
  exact z_iretE C dX3_setWorth_12 rfl ⟨_, _, _, _, rfl, hz9⟩
set_option maxRecDepth 100000 in
set_option maxHeartbeats 4000000 in
theorem c_X3_setWorth_e2 (l : Launch) (g : zG) (q : Nat → Nat) (th : Int) (a : zS) (la : Nat → Int) (pe : Nat → Nat) (ga : Nat → Int) (sz : Nat → Nat) (ha : zOk a) (h0 : zM0 la pe) (b : Nat) (x2 : Int32) (hb : b < zNb a) (hx : zBad x2 1000) : zM g l yX3_setWorth wsX3_setWorth { frames := 3, cells := 0, slots := 0, locals := 67 } [.ref (q 0), .int (nI b), .int x2] (wM g q th a la pe ga sz) (zPie (nI 0) (zMw g q 2 a)) 0 0 := by
  refine zM.of (cc := cX3_setWorth) (nL := 3) (ret := (some .int)) (lv := [(0, .ref (q 0)), (1, .int (nI b)), (2, .int x2)]) (by decide) rfl (Nat.le_of_ble_eq_true rfl) rfl ?_
  intro E C0 hi
  have C : zC g E cX3_setWorth RX3 wsX3_setWorth 3 (some .int) := C0
  obtain ⟨hnf, hnd, hnb, hou, hrs, hbd⟩ := id ha
  refine z_aload_n C dX3_setWorth_0 0 rfl ?_
  refine z_iconst C (nI 0) dX3_setWorth_1 (by decide) ?_
  refine z_put C inX3_setWorth_X3 tyX3_ok nmX3 0 wM_o rfl 0 (by decide) (C.w 1 rfl) rfl (tyX3_ok 0 (by decide)) rfl rfl (Nat.le_of_ble_eq_true rfl) dX3_setWorth_2 (wM_set_th 0) ?_
  refine z_aload_n C dX3_setWorth_5 0 rfl ?_
  refine z_iload_n C dX3_setWorth_6 1 rfl ?_
  refine z_iconst C (nI 3) dX3_setWorth_7 (by decide) ?_
  refine z_iload_n C dX3_setWorth_8 2 rfl ?_
  refine z_callV C (c_X3_change_3e2 l g q 0 a la pe ga sz ha h0 b x2 hb hx) (cwV 3 C.ts gX3_setWorth_X3_change rfl rfl rfl (by decide +kernel) ⟨Nat.le_of_ble_eq_true rfl, Nat.le_of_ble_eq_true rfl⟩) wM_o rfl rfl rfl (Nat.le_of_ble_eq_true rfl) dX3_setWorth_9 ⟨Nat.zero_le _, Nat.zero_le _⟩ (z_ie ?_)
  rintro _ ⟨la9, pe9, ga9, sz9, rfl, hz9⟩
  exact z_iretE C dX3_setWorth_12 rfl ⟨_, _, _, _, rfl, hz9⟩
set_option maxRecDepth 100000 in
set_option maxHeartbeats 4000000 in
theorem c_X3_withdraw_e1 (l : Launch) (g : zG) (q : Nat → Nat) (th : Int) (a : zS) (la : Nat → Int) (pe : Nat → Nat) (ga : Nat → Int) (sz : Nat → Nat) (ha : zOk a) (h0 : zM0 la pe) (x : Int32) (hx : zBad x (zNb a)) : zM g l yX3_withdraw wsX3_withdraw { frames := 2, cells := 0, slots := 0, locals := 43 } [.ref (q 0), .int x] (wM g q th a la pe ga sz) (zPie (nI 0) (zMw g q 1 a)) 0 0 := by
  refine zM.of (cc := cX3_withdraw) (nL := 4) (ret := (some .int)) (lv := [(0, .ref (q 0)), (1, .int x)]) (by decide) rfl (Nat.le_of_ble_eq_true rfl) rfl ?_
  intro E C0 hi
  have C : zC g E cX3_withdraw RX3 wsX3_withdraw 4 (some .int) := C0
  obtain ⟨hnf, hnd, hnb, hou, hrs, hbd⟩ := id ha
  refine z_aload_n C dX3_withdraw_0 0 rfl ?_
  refine z_iconst C (nI 0) dX3_withdraw_1 (by decide) ?_
  refine z_put C inX3_withdraw_X3 tyX3_ok nmX3 0 wM_o rfl 0 (by decide) (C.w 1 rfl) rfl (tyX3_ok 0 (by decide)) rfl rfl (Nat.le_of_ble_eq_true rfl) dX3_withdraw_2 (wM_set_th 0) ?_
  refine z_aload_n C dX3_withdraw_5 0 rfl ?_
  refine z_iload_n C dX3_withdraw_6 1 rfl ?_
  refine z_callV C (c_X3_isBid_no l g q 0 a la pe ga sz ha x hx) (cwV 1 C.ts gX3_withdraw_X3_isBid rfl rfl rfl (by decide +kernel) ⟨Nat.le_of_ble_eq_true rfl, Nat.le_of_ble_eq_true rfl⟩) wM_o rfl rfl rfl (Nat.le_of_ble_eq_true rfl) dX3_withdraw_7 ⟨Nat.zero_le _, Nat.zero_le _⟩ (z_i ?_)
  refine z_if_ne C 19 dX3_withdraw_10 (by decide) (zeq_B0 _) (fun h9 => absurd (by decide) h9) (fun c_10 => ?_)
  refine z_aload_n C dX3_withdraw_13 0 rfl ?_
  refine z_iconst C (nI 1) dX3_withdraw_14 (by decide) ?_
  refine z_callV C (c_X3_fail l g q 0 a la pe ga sz 1) (cwV 1 C.ts gX3_withdraw_X3_fail rfl rfl rfl (by decide +kernel) ⟨Nat.le_of_ble_eq_true rfl, Nat.le_of_ble_eq_true rfl⟩) wM_o rfl rfl rfl (Nat.le_of_ble_eq_true rfl) dX3_withdraw_15 ⟨Nat.zero_le _, Nat.zero_le _⟩ (z_i ?_)
  exact z_iretE C dX3_withdraw_18 rfl ⟨_, _, _, _, rfl, h0⟩
set_option maxRecDepth 100000 in
set_option maxHeartbeats 4000000 in
theorem c_X3_withdraw_e2 (l : Launch) (g : zG) (q : Nat → Nat) (th : Int) (a : zS) (la : Nat → Int) (pe : Nat → Nat) (ga : Nat → Int) (sz : Nat → Nat) (ha : zOk a) (h0 : zM0 la pe) (b : Nat) (hb : b < zNb a) (hg : ¬ zGo a b = 0) : zM g l yX3_withdraw wsX3_withdraw { frames := 2, cells := 0, slots := 0, locals := 43 } [.ref (q 0), .int (nI b)] (wM g q th a la pe ga sz) (zPie (nI 0) (zMw g q 2 a)) 0 0 := by
  refine zM.of (cc := cX3_withdraw) (nL := 4) (ret := (some .int)) (lv := [(0, .ref (q 0)), (1, .int (nI b))]) (by decide) rfl (Nat.le_of_ble_eq_true rfl) rfl ?_
  intro E C0 hi
  have C : zC g E cX3_withdraw RX3 wsX3_withdraw 4 (some .int) := C0
  obtain ⟨hnf, hnd, hnb, hou, hrs, hbd⟩ := id ha
  refine z_aload_n C dX3_withdraw_0 0 rfl ?_
  refine z_iconst C (nI 0) dX3_withdraw_1 (by decide) ?_
  refine z_put C inX3_withdraw_X3 tyX3_ok nmX3 0 wM_o rfl 0 (by decide) (C.w 1 rfl) rfl (tyX3_ok 0 (by decide)) rfl rfl (Nat.le_of_ble_eq_true rfl) dX3_withdraw_2 (wM_set_th 0) ?_
  refine z_aload_n C dX3_withdraw_5 0 rfl ?_
  refine z_iload_n C dX3_withdraw_6 1 rfl ?_
  refine z_callV C (c_X3_isBid_ok l g q 0 a la pe ga sz ha b (by omega)) (cwV 1 C.ts gX3_withdraw_X3_isBid rfl rfl rfl (by decide +kernel) ⟨Nat.le_of_ble_eq_true rfl, Nat.le_of_ble_eq_true rfl⟩) wM_o rfl rfl rfl (Nat.le_of_ble_eq_true rfl) dX3_withdraw_7 ⟨Nat.zero_le _, Nat.zero_le _⟩ (z_i ?_)
  refine z_if_ne C 19 dX3_withdraw_10 (by decide) (zeq_B0 _) (fun c_10 => ?_) (fun h9 => absurd h9 (by decide))
  refine z_aload_n C dX3_withdraw_19 0 rfl ?_
  refine z_iload_n C dX3_withdraw_20 1 rfl ?_
  refine z_iconst C (nI 4) dX3_withdraw_21 (by decide) ?_
  refine z_callV C (c_X3_bi_4 l g q 0 a la pe ga sz b (by omega)) (cwV 2 C.ts gX3_withdraw_X3_bi rfl rfl rfl (by decide +kernel) ⟨Nat.le_of_ble_eq_true rfl, Nat.le_of_ble_eq_true rfl⟩) wM_o rfl rfl rfl (Nat.le_of_ble_eq_true rfl) dX3_withdraw_22 ⟨Nat.zero_le _, Nat.zero_le _⟩ (z_i ?_)
  refine z_iconst C (nI 1) dX3_withdraw_25 (by decide) ?_
  refine z_icmp_ne C 35 dX3_withdraw_26 (by decide) (zeq_NN (by have := ha.go hb; omega) (by have := ha.go hb; omega)) (fun h9 => absurd (by have := ha.go hb; omega) h9) (fun c_26 => ?_)
  refine z_aload_n C dX3_withdraw_29 0 rfl ?_
  refine z_iconst C (nI 2) dX3_withdraw_30 (by decide) ?_
  refine z_callV C (c_X3_fail l g q 0 a la pe ga sz 2) (cwV 1 C.ts gX3_withdraw_X3_fail rfl rfl rfl (by decide +kernel) ⟨Nat.le_of_ble_eq_true rfl, Nat.le_of_ble_eq_true rfl⟩) wM_o rfl rfl rfl (Nat.le_of_ble_eq_true rfl) dX3_withdraw_31 ⟨Nat.zero_le _, Nat.zero_le _⟩ (z_i ?_)
  exact z_iretE C dX3_withdraw_34 rfl ⟨_, _, _, _, rfl, h0⟩
set_option maxRecDepth 100000 in
set_option maxHeartbeats 4000000 in
theorem c_X3_told_e1 (l : Launch) (g : zG) (q : Nat → Nat) (th : Int) (a : zS) (la : Nat → Int) (pe : Nat → Nat) (ga : Nat → Int) (sz : Nat → Nat) (ha : zOk a) (h0 : zM0 la pe) (x x2 : Int32) (hx : zBad x (zNb a)) : zM g l yX3_told wsX3_told { frames := 6, cells := 0, slots := 0, locals := 135 } [.ref (q 0), .int x, .int x2] (wM g q th a la pe ga sz) (zPie (nI 0) (zMw g q 1 a)) 0 0 := by
  refine zM.of (cc := cX3_told) (nL := 3) (ret := (some .int)) (lv := [(0, .ref (q 0)), (1, .int x), (2, .int x2)]) (by decide) rfl (Nat.le_of_ble_eq_true rfl) rfl ?_
  intro E C0 hi
  have C : zC g E cX3_told RX3 wsX3_told 3 (some .int) := C0
  obtain ⟨hnf, hnd, hnb, hou, hrs, hbd⟩ := id ha
  refine z_aload_n C dX3_told_0 0 rfl ?_
  refine z_iconst C (nI 0) dX3_told_1 (by decide) ?_
  refine z_put C inX3_told_X3 tyX3_ok nmX3 0 wM_o rfl 0 (by decide) (C.w 1 rfl) rfl (tyX3_ok 0 (by decide)) rfl rfl (Nat.le_of_ble_eq_true rfl) dX3_told_2 (wM_set_th 0) ?_
  refine z_aload_n C dX3_told_5 0 rfl ?_
  refine z_iload_n C dX3_told_6 1 rfl ?_
  refine z_callV C (c_X3_isBid_no l g q 0 a la pe ga sz ha x hx) (cwV 1 C.ts gX3_told_X3_isBid rfl rfl rfl (by decide +kernel) ⟨Nat.le_of_ble_eq_true rfl, Nat.le_of_ble_eq_true rfl⟩) wM_o rfl rfl rfl (Nat.le_of_ble_eq_true rfl) dX3_told_7 ⟨Nat.zero_le _, Nat.zero_le _⟩ (z_i ?_)
  refine z_if_eq C 32 dX3_told_10 (by decide) (zeq_B0 _) (fun c_10 => ?_) (fun h9 => absurd (by decide) h9)
  refine z_aload_n C dX3_told_32 0 rfl ?_
  refine z_iconst C (nI 1) dX3_told_33 (by decide) ?_
  refine z_callV C (c_X3_fail l g q 0 a la pe ga sz 1) (cwV 1 C.ts gX3_told_X3_fail rfl rfl rfl (by decide +kernel) ⟨Nat.le_of_ble_eq_true rfl, Nat.le_of_ble_eq_true rfl⟩) wM_o rfl rfl rfl (Nat.le_of_ble_eq_true rfl) dX3_told_34 ⟨Nat.zero_le _, Nat.zero_le _⟩ (z_i ?_)
  exact z_iretE C dX3_told_37 rfl ⟨_, _, _, _, rfl, h0⟩
set_option maxRecDepth 100000 in
set_option maxHeartbeats 4000000 in
theorem c_X3_told_e2 (l : Launch) (g : zG) (q : Nat → Nat) (th : Int) (a : zS) (la : Nat → Int) (pe : Nat → Nat) (ga : Nat → Int) (sz : Nat → Nat) (ha : zOk a) (h0 : zM0 la pe) (j : Nat) (x : Int32) (hj : j < zNb a) (hx : zBad x 8) : zM g l yX3_told wsX3_told { frames := 6, cells := 0, slots := 0, locals := 135 } [.ref (q 0), .int (nI j), .int x] (wM g q th a la pe ga sz) (zPie (nI 0) (zMw g q 1 a)) 0 0 := by
  refine zM.of (cc := cX3_told) (nL := 3) (ret := (some .int)) (lv := [(0, .ref (q 0)), (1, .int (nI j)), (2, .int x)]) (by decide) rfl (Nat.le_of_ble_eq_true rfl) rfl ?_
  intro E C0 hi
  have C : zC g E cX3_told RX3 wsX3_told 3 (some .int) := C0
  obtain ⟨hnf, hnd, hnb, hou, hrs, hbd⟩ := id ha
  refine z_aload_n C dX3_told_0 0 rfl ?_
  refine z_iconst C (nI 0) dX3_told_1 (by decide) ?_
  refine z_put C inX3_told_X3 tyX3_ok nmX3 0 wM_o rfl 0 (by decide) (C.w 1 rfl) rfl (tyX3_ok 0 (by decide)) rfl rfl (Nat.le_of_ble_eq_true rfl) dX3_told_2 (wM_set_th 0) ?_
  refine z_aload_n C dX3_told_5 0 rfl ?_
  refine z_iload_n C dX3_told_6 1 rfl ?_
  refine z_callV C (c_X3_isBid_ok l g q 0 a la pe ga sz ha j (by omega)) (cwV 1 C.ts gX3_told_X3_isBid rfl rfl rfl (by decide +kernel) ⟨Nat.le_of_ble_eq_true rfl, Nat.le_of_ble_eq_true rfl⟩) wM_o rfl rfl rfl (Nat.le_of_ble_eq_true rfl) dX3_told_7 ⟨Nat.zero_le _, Nat.zero_le _⟩ (z_i ?_)
  refine z_if_eq C 32 dX3_told_10 (by decide) (zeq_B0 _) (fun h9 => absurd h9 (by decide)) (fun c_10 => ?_)
  refine z_iload_n C dX3_told_13 2 rfl ?_
  refine z_iconst C (nI 0) dX3_told_14 (by decide) ?_
  refine z_bipush C (nI 7) dX3_told_15 (by decide) ?_
  refine z_callS C (c_X3_isIn_no l g (wM g q 0 a la pe ga sz) (x) (nI 0) (nI 7) (zbad_top (n := 7) (by decide) hx)) (va_cwS 3 C.ts gX3_told_X3_isIn rfl rfl rfl (by decide +kernel) ⟨Nat.le_of_ble_eq_true rfl, Nat.le_of_ble_eq_true rfl⟩) rfl rfl (Nat.le_of_ble_eq_true rfl) dX3_told_17 ⟨Nat.zero_le _, Nat.zero_le _⟩ (z_i ?_)
  refine z_if_eq C 32 dX3_told_20 (by decide) (zeq_B0 _) (fun c_20 => ?_) (fun h9 => absurd (by decide) h9)
  refine z_aload_n C dX3_told_32 0 rfl ?_
  refine z_iconst C (nI 1) dX3_told_33 (by decide) ?_
  refine z_callV C (c_X3_fail l g q 0 a la pe ga sz 1) (cwV 1 C.ts gX3_told_X3_fail rfl rfl rfl (by decide +kernel) ⟨Nat.le_of_ble_eq_true rfl, Nat.le_of_ble_eq_true rfl⟩) wM_o rfl rfl rfl (Nat.le_of_ble_eq_true rfl) dX3_told_34 ⟨Nat.zero_le _, Nat.zero_le _⟩ (z_i ?_)
  exact z_iretE C dX3_told_37 rfl ⟨_, _, _, _, rfl, h0⟩
set_option maxRecDepth 100000 in
set_option maxHeartbeats 4000000 in
theorem c_X3_about_e1 (l : Launch) (g : zG) (q : Nat → Nat) (th : Int) (a : zS) (la : Nat → Int) (pe : Nat → Nat) (ga : Nat → Int) (sz : Nat → Nat) (ha : zOk a) (h0 : zM0 la pe) (x x2 : Int32) (hx : zBad x (zNd a)) : zM g l yX3_about wsX3_about { frames := 9, cells := 0, slots := 0, locals := 206 } [.ref (q 0), .int x, .int x2] (wM g q th a la pe ga sz) (zPie (nI 0) (zMw g q 1 a)) 0 0 := by
  refine zM.of (cc := cX3_about) (nL := 3) (ret := (some .int)) (lv := [(0, .ref (q 0)), (1, .int x), (2, .int x2)]) (by decide) rfl (Nat.le_of_ble_eq_true rfl) rfl ?_
  intro E C0 hi
  have C : zC g E cX3_about RX3 wsX3_about 3 (some .int) := C0
  obtain ⟨hnf, hnd, hnb, hou, hrs, hbd⟩ := id ha
  refine z_aload_n C dX3_about_0 0 rfl ?_
  refine z_iconst C (nI 0) dX3_about_1 (by decide) ?_
  refine z_put C inX3_about_X3 tyX3_ok nmX3 0 wM_o rfl 0 (by decide) (C.w 1 rfl) rfl (tyX3_ok 0 (by decide)) rfl rfl (Nat.le_of_ble_eq_true rfl) dX3_about_2 (wM_set_th 0) ?_
  refine z_aload_n C dX3_about_5 0 rfl ?_
  refine z_iload_n C dX3_about_6 1 rfl ?_
  refine z_callV C (c_X3_isBidder_no l g q 0 a la pe ga sz ha x hx) (cwV 1 C.ts gX3_about_X3_isBidder rfl rfl rfl (by decide +kernel) ⟨Nat.le_of_ble_eq_true rfl, Nat.le_of_ble_eq_true rfl⟩) wM_o rfl rfl rfl (Nat.le_of_ble_eq_true rfl) dX3_about_7 ⟨Nat.zero_le _, Nat.zero_le _⟩ (z_i ?_)
  refine z_if_eq C 31 dX3_about_10 (by decide) (zeq_B0 _) (fun c_10 => ?_) (fun h9 => absurd (by decide) h9)
  refine z_aload_n C dX3_about_31 0 rfl ?_
  refine z_iconst C (nI 1) dX3_about_32 (by decide) ?_
  refine z_callV C (c_X3_fail l g q 0 a la pe ga sz 1) (cwV 1 C.ts gX3_about_X3_fail rfl rfl rfl (by decide +kernel) ⟨Nat.le_of_ble_eq_true rfl, Nat.le_of_ble_eq_true rfl⟩) wM_o rfl rfl rfl (Nat.le_of_ble_eq_true rfl) dX3_about_33 ⟨Nat.zero_le _, Nat.zero_le _⟩ (z_i ?_)
  exact z_iretE C dX3_about_36 rfl ⟨_, _, _, _, rfl, h0⟩
set_option maxRecDepth 100000 in
set_option maxHeartbeats 4000000 in
theorem c_X3_about_e2 (l : Launch) (g : zG) (q : Nat → Nat) (th : Int) (a : zS) (la : Nat → Int) (pe : Nat → Nat) (ga : Nat → Int) (sz : Nat → Nat) (ha : zOk a) (h0 : zM0 la pe) (j : Nat) (x : Int32) (hj : j < zNd a) (hx : zBad x 6) : zM g l yX3_about wsX3_about { frames := 9, cells := 0, slots := 0, locals := 206 } [.ref (q 0), .int (nI j), .int x] (wM g q th a la pe ga sz) (zPie (nI 0) (zMw g q 1 a)) 0 0 := by
  refine zM.of (cc := cX3_about) (nL := 3) (ret := (some .int)) (lv := [(0, .ref (q 0)), (1, .int (nI j)), (2, .int x)]) (by decide) rfl (Nat.le_of_ble_eq_true rfl) rfl ?_
  intro E C0 hi
  have C : zC g E cX3_about RX3 wsX3_about 3 (some .int) := C0
  obtain ⟨hnf, hnd, hnb, hou, hrs, hbd⟩ := id ha
  refine z_aload_n C dX3_about_0 0 rfl ?_
  refine z_iconst C (nI 0) dX3_about_1 (by decide) ?_
  refine z_put C inX3_about_X3 tyX3_ok nmX3 0 wM_o rfl 0 (by decide) (C.w 1 rfl) rfl (tyX3_ok 0 (by decide)) rfl rfl (Nat.le_of_ble_eq_true rfl) dX3_about_2 (wM_set_th 0) ?_
  refine z_aload_n C dX3_about_5 0 rfl ?_
  refine z_iload_n C dX3_about_6 1 rfl ?_
  refine z_callV C (c_X3_isBidder_ok l g q 0 a la pe ga sz ha j (by omega)) (cwV 1 C.ts gX3_about_X3_isBidder rfl rfl rfl (by decide +kernel) ⟨Nat.le_of_ble_eq_true rfl, Nat.le_of_ble_eq_true rfl⟩) wM_o rfl rfl rfl (Nat.le_of_ble_eq_true rfl) dX3_about_7 ⟨Nat.zero_le _, Nat.zero_le _⟩ (z_i ?_)
  refine z_if_eq C 31 dX3_about_10 (by decide) (zeq_B0 _) (fun h9 => absurd h9 (by decide)) (fun c_10 => ?_)
  refine z_iload_n C dX3_about_13 2 rfl ?_
  refine z_iconst C (nI 0) dX3_about_14 (by decide) ?_
  refine z_iconst C (nI 5) dX3_about_15 (by decide) ?_
  refine z_callS C (c_X3_isIn_no l g (wM g q 0 a la pe ga sz) (x) (nI 0) (nI 5) (zbad_top (n := 5) (by decide) hx)) (va_cwS 3 C.ts gX3_about_X3_isIn rfl rfl rfl (by decide +kernel) ⟨Nat.le_of_ble_eq_true rfl, Nat.le_of_ble_eq_true rfl⟩) rfl rfl (Nat.le_of_ble_eq_true rfl) dX3_about_16 ⟨Nat.zero_le _, Nat.zero_le _⟩ (z_i ?_)
  refine z_if_eq C 31 dX3_about_19 (by decide) (zeq_B0 _) (fun c_19 => ?_) (fun h9 => absurd (by decide) h9)
  refine z_aload_n C dX3_about_31 0 rfl ?_
  refine z_iconst C (nI 1) dX3_about_32 (by decide) ?_
  refine z_callV C (c_X3_fail l g q 0 a la pe ga sz 1) (cwV 1 C.ts gX3_about_X3_fail rfl rfl rfl (by decide +kernel) ⟨Nat.le_of_ble_eq_true rfl, Nat.le_of_ble_eq_true rfl⟩) wM_o rfl rfl rfl (Nat.le_of_ble_eq_true rfl) dX3_about_33 ⟨Nat.zero_le _, Nat.zero_le _⟩ (z_i ?_)
  exact z_iretE C dX3_about_36 rfl ⟨_, _, _, _, rfl, h0⟩
set_option maxRecDepth 100000 in
set_option maxHeartbeats 4000000 in
theorem c_X3_land_e1 (l : Launch) (g : zG) (q : Nat → Nat) (th : Int) (a : zS) (la : Nat → Int) (pe : Nat → Nat) (ga : Nat → Int) (sz : Nat → Nat) (ha : zOk a) (h0 : zM0 la pe) (x x2 : Int32) (hx : zBad x (zNf a)) : zM g l yX3_land wsX3_land { frames := 6, cells := 0, slots := 0, locals := 138 } [.ref (q 0), .int x, .int x2] (wM g q th a la pe ga sz) (zPie (nI 0) (zMw g q 1 a)) 0 0 := by
  refine zM.of (cc := cX3_land) (nL := 3) (ret := (some .int)) (lv := [(0, .ref (q 0)), (1, .int x), (2, .int x2)]) (by decide) rfl (Nat.le_of_ble_eq_true rfl) rfl ?_
  intro E C0 hi
  have C : zC g E cX3_land RX3 wsX3_land 3 (some .int) := C0
  obtain ⟨hnf, hnd, hnb, hou, hrs, hbd⟩ := id ha
  refine z_aload_n C dX3_land_0 0 rfl ?_
  refine z_iconst C (nI 0) dX3_land_1 (by decide) ?_
  refine z_put C inX3_land_X3 tyX3_ok nmX3 0 wM_o rfl 0 (by decide) (C.w 1 rfl) rfl (tyX3_ok 0 (by decide)) rfl rfl (Nat.le_of_ble_eq_true rfl) dX3_land_2 (wM_set_th 0) ?_
  refine z_aload_n C dX3_land_5 0 rfl ?_
  refine z_iload_n C dX3_land_6 1 rfl ?_
  refine z_callV C (c_X3_isField_no l g q 0 a la pe ga sz ha x hx) (cwV 1 C.ts gX3_land_X3_isField rfl rfl rfl (by decide +kernel) ⟨Nat.le_of_ble_eq_true rfl, Nat.le_of_ble_eq_true rfl⟩) wM_o rfl rfl rfl (Nat.le_of_ble_eq_true rfl) dX3_land_7 ⟨Nat.zero_le _, Nat.zero_le _⟩ (z_i ?_)
  refine z_if_eq C 31 dX3_land_10 (by decide) (zeq_B0 _) (fun c_10 => ?_) (fun h9 => absurd (by decide) h9)
  refine z_aload_n C dX3_land_31 0 rfl ?_
  refine z_iconst C (nI 1) dX3_land_32 (by decide) ?_
  refine z_callV C (c_X3_fail l g q 0 a la pe ga sz 1) (cwV 1 C.ts gX3_land_X3_fail rfl rfl rfl (by decide +kernel) ⟨Nat.le_of_ble_eq_true rfl, Nat.le_of_ble_eq_true rfl⟩) wM_o rfl rfl rfl (Nat.le_of_ble_eq_true rfl) dX3_land_33 ⟨Nat.zero_le _, Nat.zero_le _⟩ (z_i ?_)
  exact z_iretE C dX3_land_36 rfl ⟨_, _, _, _, rfl, h0⟩
set_option maxRecDepth 100000 in
set_option maxHeartbeats 4000000 in
theorem c_X3_land_e2 (l : Launch) (g : zG) (q : Nat → Nat) (th : Int) (a : zS) (la : Nat → Int) (pe : Nat → Nat) (ga : Nat → Int) (sz : Nat → Nat) (ha : zOk a) (h0 : zM0 la pe) (j : Nat) (x : Int32) (hj : j < zNf a) (hx : zBad x 3) : zM g l yX3_land wsX3_land { frames := 6, cells := 0, slots := 0, locals := 138 } [.ref (q 0), .int (nI j), .int x] (wM g q th a la pe ga sz) (zPie (nI 0) (zMw g q 1 a)) 0 0 := by
  refine zM.of (cc := cX3_land) (nL := 3) (ret := (some .int)) (lv := [(0, .ref (q 0)), (1, .int (nI j)), (2, .int x)]) (by decide) rfl (Nat.le_of_ble_eq_true rfl) rfl ?_
  intro E C0 hi
  have C : zC g E cX3_land RX3 wsX3_land 3 (some .int) := C0
  obtain ⟨hnf, hnd, hnb, hou, hrs, hbd⟩ := id ha
  refine z_aload_n C dX3_land_0 0 rfl ?_
  refine z_iconst C (nI 0) dX3_land_1 (by decide) ?_
  refine z_put C inX3_land_X3 tyX3_ok nmX3 0 wM_o rfl 0 (by decide) (C.w 1 rfl) rfl (tyX3_ok 0 (by decide)) rfl rfl (Nat.le_of_ble_eq_true rfl) dX3_land_2 (wM_set_th 0) ?_
  refine z_aload_n C dX3_land_5 0 rfl ?_
  refine z_iload_n C dX3_land_6 1 rfl ?_
  refine z_callV C (c_X3_isField_ok l g q 0 a la pe ga sz ha j (by omega)) (cwV 1 C.ts gX3_land_X3_isField rfl rfl rfl (by decide +kernel) ⟨Nat.le_of_ble_eq_true rfl, Nat.le_of_ble_eq_true rfl⟩) wM_o rfl rfl rfl (Nat.le_of_ble_eq_true rfl) dX3_land_7 ⟨Nat.zero_le _, Nat.zero_le _⟩ (z_i ?_)
  refine z_if_eq C 31 dX3_land_10 (by decide) (zeq_B0 _) (fun h9 => absurd h9 (by decide)) (fun c_10 => ?_)
  refine z_iload_n C dX3_land_13 2 rfl ?_
  refine z_iconst C (nI 0) dX3_land_14 (by decide) ?_
  refine z_iconst C (nI 2) dX3_land_15 (by decide) ?_
  refine z_callS C (c_X3_isIn_no l g (wM g q 0 a la pe ga sz) (x) (nI 0) (nI 2) (zbad_top (n := 2) (by decide) hx)) (va_cwS 3 C.ts gX3_land_X3_isIn rfl rfl rfl (by decide +kernel) ⟨Nat.le_of_ble_eq_true rfl, Nat.le_of_ble_eq_true rfl⟩) rfl rfl (Nat.le_of_ble_eq_true rfl) dX3_land_16 ⟨Nat.zero_le _, Nat.zero_le _⟩ (z_i ?_)
  refine z_if_eq C 31 dX3_land_19 (by decide) (zeq_B0 _) (fun c_19 => ?_) (fun h9 => absurd (by decide) h9)
  refine z_aload_n C dX3_land_31 0 rfl ?_
  refine z_iconst C (nI 1) dX3_land_32 (by decide) ?_
  refine z_callV C (c_X3_fail l g q 0 a la pe ga sz 1) (cwV 1 C.ts gX3_land_X3_fail rfl rfl rfl (by decide +kernel) ⟨Nat.le_of_ble_eq_true rfl, Nat.le_of_ble_eq_true rfl⟩) wM_o rfl rfl rfl (Nat.le_of_ble_eq_true rfl) dX3_land_33 ⟨Nat.zero_le _, Nat.zero_le _⟩ (z_i ?_)
  exact z_iretE C dX3_land_36 rfl ⟨_, _, _, _, rfl, h0⟩
set_option maxRecDepth 100000 in
set_option maxHeartbeats 4000000 in
theorem c_X3_alone_e1 (l : Launch) (g : zG) (q : Nat → Nat) (th : Int) (a : zS) (la : Nat → Int) (pe : Nat → Nat) (ga : Nat → Int) (sz : Nat → Nat) (ha : zOk a) (h0 : zM0 la pe) (x x2 : Int32) (hx : zBad x (zNf a)) : zM g l yX3_alone wsX3_alone { frames := 5, cells := 0, slots := 0, locals := 111 } [.ref (q 0), .int x, .int x2] (wM g q th a la pe ga sz) (zPie (nI 0) (zMw g q 1 a)) 0 0 := by
  refine zM.of (cc := cX3_alone) (nL := 3) (ret := (some .int)) (lv := [(0, .ref (q 0)), (1, .int x), (2, .int x2)]) (by decide) rfl (Nat.le_of_ble_eq_true rfl) rfl ?_
  intro E C0 hi
  have C : zC g E cX3_alone RX3 wsX3_alone 3 (some .int) := C0
  obtain ⟨hnf, hnd, hnb, hou, hrs, hbd⟩ := id ha
  refine z_aload_n C dX3_alone_0 0 rfl ?_
  refine z_iconst C (nI 0) dX3_alone_1 (by decide) ?_
  refine z_put C inX3_alone_X3 tyX3_ok nmX3 0 wM_o rfl 0 (by decide) (C.w 1 rfl) rfl (tyX3_ok 0 (by decide)) rfl rfl (Nat.le_of_ble_eq_true rfl) dX3_alone_2 (wM_set_th 0) ?_
  refine z_aload_n C dX3_alone_5 0 rfl ?_
  refine z_iload_n C dX3_alone_6 1 rfl ?_
  refine z_callV C (c_X3_isField_no l g q 0 a la pe ga sz ha x hx) (cwV 1 C.ts gX3_alone_X3_isField rfl rfl rfl (by decide +kernel) ⟨Nat.le_of_ble_eq_true rfl, Nat.le_of_ble_eq_true rfl⟩) wM_o rfl rfl rfl (Nat.le_of_ble_eq_true rfl) dX3_alone_7 ⟨Nat.zero_le _, Nat.zero_le _⟩ (z_i ?_)
  refine z_if_eq C 31 dX3_alone_10 (by decide) (zeq_B0 _) (fun c_10 => ?_) (fun h9 => absurd (by decide) h9)
  refine z_aload_n C dX3_alone_31 0 rfl ?_
  refine z_iconst C (nI 1) dX3_alone_32 (by decide) ?_
  refine z_callV C (c_X3_fail l g q 0 a la pe ga sz 1) (cwV 1 C.ts gX3_alone_X3_fail rfl rfl rfl (by decide +kernel) ⟨Nat.le_of_ble_eq_true rfl, Nat.le_of_ble_eq_true rfl⟩) wM_o rfl rfl rfl (Nat.le_of_ble_eq_true rfl) dX3_alone_33 ⟨Nat.zero_le _, Nat.zero_le _⟩ (z_i ?_)
  exact z_iretE C dX3_alone_36 rfl ⟨_, _, _, _, rfl, h0⟩
set_option maxRecDepth 100000 in
set_option maxHeartbeats 4000000 in
theorem c_X3_alone_e2 (l : Launch) (g : zG) (q : Nat → Nat) (th : Int) (a : zS) (la : Nat → Int) (pe : Nat → Nat) (ga : Nat → Int) (sz : Nat → Nat) (ha : zOk a) (h0 : zM0 la pe) (j : Nat) (x : Int32) (hj : j < zNf a) (hx : zBad x 3) : zM g l yX3_alone wsX3_alone { frames := 5, cells := 0, slots := 0, locals := 111 } [.ref (q 0), .int (nI j), .int x] (wM g q th a la pe ga sz) (zPie (nI 0) (zMw g q 1 a)) 0 0 := by
  refine zM.of (cc := cX3_alone) (nL := 3) (ret := (some .int)) (lv := [(0, .ref (q 0)), (1, .int (nI j)), (2, .int x)]) (by decide) rfl (Nat.le_of_ble_eq_true rfl) rfl ?_
  intro E C0 hi
  have C : zC g E cX3_alone RX3 wsX3_alone 3 (some .int) := C0
  obtain ⟨hnf, hnd, hnb, hou, hrs, hbd⟩ := id ha
  refine z_aload_n C dX3_alone_0 0 rfl ?_
  refine z_iconst C (nI 0) dX3_alone_1 (by decide) ?_
  refine z_put C inX3_alone_X3 tyX3_ok nmX3 0 wM_o rfl 0 (by decide) (C.w 1 rfl) rfl (tyX3_ok 0 (by decide)) rfl rfl (Nat.le_of_ble_eq_true rfl) dX3_alone_2 (wM_set_th 0) ?_
  refine z_aload_n C dX3_alone_5 0 rfl ?_
  refine z_iload_n C dX3_alone_6 1 rfl ?_
  refine z_callV C (c_X3_isField_ok l g q 0 a la pe ga sz ha j (by omega)) (cwV 1 C.ts gX3_alone_X3_isField rfl rfl rfl (by decide +kernel) ⟨Nat.le_of_ble_eq_true rfl, Nat.le_of_ble_eq_true rfl⟩) wM_o rfl rfl rfl (Nat.le_of_ble_eq_true rfl) dX3_alone_7 ⟨Nat.zero_le _, Nat.zero_le _⟩ (z_i ?_)
  refine z_if_eq C 31 dX3_alone_10 (by decide) (zeq_B0 _) (fun h9 => absurd h9 (by decide)) (fun c_10 => ?_)
  refine z_iload_n C dX3_alone_13 2 rfl ?_
  refine z_iconst C (nI 0) dX3_alone_14 (by decide) ?_
  refine z_iconst C (nI 2) dX3_alone_15 (by decide) ?_
  refine z_callS C (c_X3_isIn_no l g (wM g q 0 a la pe ga sz) (x) (nI 0) (nI 2) (zbad_top (n := 2) (by decide) hx)) (va_cwS 3 C.ts gX3_alone_X3_isIn rfl rfl rfl (by decide +kernel) ⟨Nat.le_of_ble_eq_true rfl, Nat.le_of_ble_eq_true rfl⟩) rfl rfl (Nat.le_of_ble_eq_true rfl) dX3_alone_16 ⟨Nat.zero_le _, Nat.zero_le _⟩ (z_i ?_)
  refine z_if_eq C 31 dX3_alone_19 (by decide) (zeq_B0 _) (fun c_19 => ?_) (fun h9 => absurd (by decide) h9)
  refine z_aload_n C dX3_alone_31 0 rfl ?_
  refine z_iconst C (nI 1) dX3_alone_32 (by decide) ?_
  refine z_callV C (c_X3_fail l g q 0 a la pe ga sz 1) (cwV 1 C.ts gX3_alone_X3_fail rfl rfl rfl (by decide +kernel) ⟨Nat.le_of_ble_eq_true rfl, Nat.le_of_ble_eq_true rfl⟩) wM_o rfl rfl rfl (Nat.le_of_ble_eq_true rfl) dX3_alone_33 ⟨Nat.zero_le _, Nat.zero_le _⟩ (z_i ?_)
  exact z_iretE C dX3_alone_36 rfl ⟨_, _, _, _, rfl, h0⟩
set_option maxRecDepth 100000 in
set_option maxHeartbeats 4000000 in
theorem c_X3_count_e1 (l : Launch) (g : zG) (q : Nat → Nat) (th : Int) (a : zS) (la : Nat → Int) (pe : Nat → Nat) (ga : Nat → Int) (sz : Nat → Nat) (ha : zOk a) (h0 : zM0 la pe) (x : Int32) (hx : zBad x 9) : zM g l yX3_count wsX3_count { frames := 9, cells := 0, slots := 0, locals := 206 } [.ref (q 0), .int x] (wM g q th a la pe ga sz) (zPie (nI 0) (zMw g q 1 a)) 0 0 := by
  refine zM.of (cc := cX3_count) (nL := 2) (ret := (some .int)) (lv := [(0, .ref (q 0)), (1, .int x)]) (by decide) rfl (Nat.le_of_ble_eq_true rfl) rfl ?_
  intro E C0 hi
  have C : zC g E cX3_count RX3 wsX3_count 2 (some .int) := C0
  obtain ⟨hnf, hnd, hnb, hou, hrs, hbd⟩ := id ha
  refine z_aload_n C dX3_count_0 0 rfl ?_
  refine z_iconst C (nI 0) dX3_count_1 (by decide) ?_
  refine z_put C inX3_count_X3 tyX3_ok nmX3 0 wM_o rfl 0 (by decide) (C.w 1 rfl) rfl (tyX3_ok 0 (by decide)) rfl rfl (Nat.le_of_ble_eq_true rfl) dX3_count_2 (wM_set_th 0) ?_
  refine z_iload_n C dX3_count_5 1 rfl ?_
  refine z_iconst C (nI 0) dX3_count_6 (by decide) ?_
  refine z_bipush C (nI 8) dX3_count_7 (by decide) ?_
  refine z_callS C (c_X3_isIn_no l g (wM g q 0 a la pe ga sz) (x) (nI 0) (nI 8) (zbad_top (n := 8) (by decide) hx)) (va_cwS 3 C.ts gX3_count_X3_isIn rfl rfl rfl (by decide +kernel) ⟨Nat.le_of_ble_eq_true rfl, Nat.le_of_ble_eq_true rfl⟩) rfl rfl (Nat.le_of_ble_eq_true rfl) dX3_count_9 ⟨Nat.zero_le _, Nat.zero_le _⟩ (z_i ?_)
  refine z_if_eq C 23 dX3_count_12 (by decide) (zeq_B0 _) (fun c_12 => ?_) (fun h9 => absurd (by decide) h9)
  refine z_aload_n C dX3_count_23 0 rfl ?_
  refine z_iconst C (nI 1) dX3_count_24 (by decide) ?_
  refine z_callV C (c_X3_fail l g q 0 a la pe ga sz 1) (cwV 1 C.ts gX3_count_X3_fail rfl rfl rfl (by decide +kernel) ⟨Nat.le_of_ble_eq_true rfl, Nat.le_of_ble_eq_true rfl⟩) wM_o rfl rfl rfl (Nat.le_of_ble_eq_true rfl) dX3_count_25 ⟨Nat.zero_le _, Nat.zero_le _⟩ (z_i ?_)
  exact z_iretE C dX3_count_28 rfl ⟨_, _, _, _, rfl, h0⟩
set_option maxRecDepth 100000 in
set_option maxHeartbeats 4000000 in
theorem c_X3_would_e1 (l : Launch) (g : zG) (q : Nat → Nat) (th : Int) (a : zS) (la : Nat → Int) (pe : Nat → Nat) (ga : Nat → Int) (sz : Nat → Nat) (ha : zOk a) (h0 : zM0 la pe) (x x2 x3 : Int32) (hx : zBad x (zNb a)) : zM g l yX3_would wsX3_would { frames := 9, cells := 0, slots := 0, locals := 207 } [.ref (q 0), .int x, .int x2, .int x3] (wM g q th a la pe ga sz) (zPie (nI 0) (zMw g q 1 a)) 0 0 := by
  refine zM.of (cc := cX3_would) (nL := 4) (ret := (some .int)) (lv := [(0, .ref (q 0)), (1, .int x), (2, .int x2), (3, .int x3)]) (by decide) rfl (Nat.le_of_ble_eq_true rfl) rfl ?_
  intro E C0 hi
  have C : zC g E cX3_would RX3 wsX3_would 4 (some .int) := C0
  obtain ⟨hnf, hnd, hnb, hou, hrs, hbd⟩ := id ha
  refine z_aload_n C dX3_would_0 0 rfl ?_
  refine z_iconst C (nI 0) dX3_would_1 (by decide) ?_
  refine z_put C inX3_would_X3 tyX3_ok nmX3 0 wM_o rfl 0 (by decide) (C.w 1 rfl) rfl (tyX3_ok 0 (by decide)) rfl rfl (Nat.le_of_ble_eq_true rfl) dX3_would_2 (wM_set_th 0) ?_
  refine z_aload_n C dX3_would_5 0 rfl ?_
  refine z_iload_n C dX3_would_6 1 rfl ?_
  refine z_callV C (c_X3_isBid_no l g q 0 a la pe ga sz ha x hx) (cwV 1 C.ts gX3_would_X3_isBid rfl rfl rfl (by decide +kernel) ⟨Nat.le_of_ble_eq_true rfl, Nat.le_of_ble_eq_true rfl⟩) wM_o rfl rfl rfl (Nat.le_of_ble_eq_true rfl) dX3_would_7 ⟨Nat.zero_le _, Nat.zero_le _⟩ (z_i ?_)
  refine z_if_eq C 22 dX3_would_10 (by decide) (zeq_B0 _) (fun c_10 => ?_) (fun h9 => absurd (by decide) h9)
  refine z_aload_n C dX3_would_22 0 rfl ?_
  refine z_iconst C (nI 1) dX3_would_23 (by decide) ?_
  refine z_callV C (c_X3_fail l g q 0 a la pe ga sz 1) (cwV 1 C.ts gX3_would_X3_fail rfl rfl rfl (by decide +kernel) ⟨Nat.le_of_ble_eq_true rfl, Nat.le_of_ble_eq_true rfl⟩) wM_o rfl rfl rfl (Nat.le_of_ble_eq_true rfl) dX3_would_24 ⟨Nat.zero_le _, Nat.zero_le _⟩ (z_i ?_)
  exact z_iretE C dX3_would_27 rfl ⟨_, _, _, _, rfl, h0⟩
set_option maxRecDepth 100000 in
set_option maxHeartbeats 4000000 in
theorem c_X3_would_e2 (l : Launch) (g : zG) (q : Nat → Nat) (th : Int) (a : zS) (la : Nat → Int) (pe : Nat → Nat) (ga : Nat → Int) (sz : Nat → Nat) (ha : zOk a) (h0 : zM0 la pe) (b : Nat) (x x2 : Int32) (hb : b < zNb a) (hx : zBad x2 4) : zM g l yX3_would wsX3_would { frames := 9, cells := 0, slots := 0, locals := 207 } [.ref (q 0), .int (nI b), .int x, .int x2] (wM g q th a la pe ga sz) (zPie (nI 0) (zMw g q 1 a)) 0 0 := by
  refine zM.of (cc := cX3_would) (nL := 4) (ret := (some .int)) (lv := [(0, .ref (q 0)), (1, .int (nI b)), (2, .int x), (3, .int x2)]) (by decide) rfl (Nat.le_of_ble_eq_true rfl) rfl ?_
  intro E C0 hi
  have C : zC g E cX3_would RX3 wsX3_would 4 (some .int) := C0
  obtain ⟨hnf, hnd, hnb, hou, hrs, hbd⟩ := id ha
  refine z_aload_n C dX3_would_0 0 rfl ?_
  refine z_iconst C (nI 0) dX3_would_1 (by decide) ?_
  refine z_put C inX3_would_X3 tyX3_ok nmX3 0 wM_o rfl 0 (by decide) (C.w 1 rfl) rfl (tyX3_ok 0 (by decide)) rfl rfl (Nat.le_of_ble_eq_true rfl) dX3_would_2 (wM_set_th 0) ?_
  refine z_aload_n C dX3_would_5 0 rfl ?_
  refine z_iload_n C dX3_would_6 1 rfl ?_
  refine z_callV C (c_X3_isBid_ok l g q 0 a la pe ga sz ha b (by omega)) (cwV 1 C.ts gX3_would_X3_isBid rfl rfl rfl (by decide +kernel) ⟨Nat.le_of_ble_eq_true rfl, Nat.le_of_ble_eq_true rfl⟩) wM_o rfl rfl rfl (Nat.le_of_ble_eq_true rfl) dX3_would_7 ⟨Nat.zero_le _, Nat.zero_le _⟩ (z_i ?_)
  refine z_if_eq C 22 dX3_would_10 (by decide) (zeq_B0 _) (fun h9 => absurd h9 (by decide)) (fun c_10 => ?_)
  refine z_iload_n C dX3_would_13 3 rfl ?_
  refine z_iconst C (nI 0) dX3_would_14 (by decide) ?_
  refine z_iconst C (nI 3) dX3_would_15 (by decide) ?_
  refine z_callS C (c_X3_isIn_no l g (wM g q 0 a la pe ga sz) (x2) (nI 0) (nI 3) (zbad_top (n := 3) (by decide) hx)) (va_cwS 3 C.ts gX3_would_X3_isIn rfl rfl rfl (by decide +kernel) ⟨Nat.le_of_ble_eq_true rfl, Nat.le_of_ble_eq_true rfl⟩) rfl rfl (Nat.le_of_ble_eq_true rfl) dX3_would_16 ⟨Nat.zero_le _, Nat.zero_le _⟩ (z_i ?_)
  refine z_if_ne C 28 dX3_would_19 (by decide) (zeq_B0 _) (fun h9 => absurd (by decide) h9) (fun c_19 => ?_)
  refine z_aload_n C dX3_would_22 0 rfl ?_
  refine z_iconst C (nI 1) dX3_would_23 (by decide) ?_
  refine z_callV C (c_X3_fail l g q 0 a la pe ga sz 1) (cwV 1 C.ts gX3_would_X3_fail rfl rfl rfl (by decide +kernel) ⟨Nat.le_of_ble_eq_true rfl, Nat.le_of_ble_eq_true rfl⟩) wM_o rfl rfl rfl (Nat.le_of_ble_eq_true rfl) dX3_would_24 ⟨Nat.zero_le _, Nat.zero_le _⟩ (z_i ?_)
  exact z_iretE C dX3_would_27 rfl ⟨_, _, _, _, rfl, h0⟩
set_option maxRecDepth 100000 in
set_option maxHeartbeats 4000000 in
theorem c_X3_would_e3 (l : Launch) (g : zG) (q : Nat → Nat) (th : Int) (a : zS) (la : Nat → Int) (pe : Nat → Nat) (ga : Nat → Int) (sz : Nat → Nat) (ha : zOk a) (h0 : zM0 la pe) (b : Nat) (x : Int32) (w : Nat) (hb : b < zNb a) (hw : w ≤ 3) (hx : zBad x 1000) : zM g l yX3_would wsX3_would { frames := 9, cells := 0, slots := 0, locals := 207 } [.ref (q 0), .int (nI b), .int x, .int (nI w)] (wM g q th a la pe ga sz) (zPie (nI 0) (zMw g q 2 a)) 0 0 := by
  refine zM.of (cc := cX3_would) (nL := 4) (ret := (some .int)) (lv := [(0, .ref (q 0)), (1, .int (nI b)), (2, .int x), (3, .int (nI w))]) (by decide) rfl (Nat.le_of_ble_eq_true rfl) rfl ?_
  intro E C0 hi
  have C : zC g E cX3_would RX3 wsX3_would 4 (some .int) := C0
  obtain ⟨hnf, hnd, hnb, hou, hrs, hbd⟩ := id ha
  refine z_aload_n C dX3_would_0 0 rfl ?_
  refine z_iconst C (nI 0) dX3_would_1 (by decide) ?_
  refine z_put C inX3_would_X3 tyX3_ok nmX3 0 wM_o rfl 0 (by decide) (C.w 1 rfl) rfl (tyX3_ok 0 (by decide)) rfl rfl (Nat.le_of_ble_eq_true rfl) dX3_would_2 (wM_set_th 0) ?_
  refine z_aload_n C dX3_would_5 0 rfl ?_
  refine z_iload_n C dX3_would_6 1 rfl ?_
  refine z_callV C (c_X3_isBid_ok l g q 0 a la pe ga sz ha b (by omega)) (cwV 1 C.ts gX3_would_X3_isBid rfl rfl rfl (by decide +kernel) ⟨Nat.le_of_ble_eq_true rfl, Nat.le_of_ble_eq_true rfl⟩) wM_o rfl rfl rfl (Nat.le_of_ble_eq_true rfl) dX3_would_7 ⟨Nat.zero_le _, Nat.zero_le _⟩ (z_i ?_)
  refine z_if_eq C 22 dX3_would_10 (by decide) (zeq_B0 _) (fun h9 => absurd h9 (by decide)) (fun c_10 => ?_)
  refine z_iload_n C dX3_would_13 3 rfl ?_
  refine z_iconst C (nI 0) dX3_would_14 (by decide) ?_
  refine z_iconst C (nI 3) dX3_would_15 (by decide) ?_
  refine z_callS C (c_X3_isIn_ok l g (wM g q 0 a la pe ga sz) w 0 3 (by omega) (by omega) (by omega)) (va_cwS 3 C.ts gX3_would_X3_isIn rfl rfl rfl (by decide +kernel) ⟨Nat.le_of_ble_eq_true rfl, Nat.le_of_ble_eq_true rfl⟩) rfl rfl (Nat.le_of_ble_eq_true rfl) dX3_would_16 ⟨Nat.zero_le _, Nat.zero_le _⟩ (z_i ?_)
  refine z_if_ne C 28 dX3_would_19 (by decide) (zeq_B0 _) (fun c_19 => ?_) (fun h9 => absurd h9 (by decide))
  refine z_iload_n C dX3_would_28 2 rfl ?_
  refine z_callS C (c_X3_isPrice_no l g (wM g q 0 a la pe ga sz) x hx) (va_cwS 1 C.ts gX3_would_X3_isPrice rfl rfl rfl (by decide +kernel) ⟨Nat.le_of_ble_eq_true rfl, Nat.le_of_ble_eq_true rfl⟩) rfl rfl (Nat.le_of_ble_eq_true rfl) dX3_would_29 ⟨Nat.zero_le _, Nat.zero_le _⟩ (z_i ?_)
  refine z_if_eq C 45 dX3_would_32 (by decide) (zeq_B0 _) (fun c_32 => ?_) (fun h9 => absurd (by decide) h9)
  refine z_aload_n C dX3_would_45 0 rfl ?_
  refine z_iconst C (nI 2) dX3_would_46 (by decide) ?_
  refine z_callV C (c_X3_fail l g q 0 a la pe ga sz 2) (cwV 1 C.ts gX3_would_X3_fail rfl rfl rfl (by decide +kernel) ⟨Nat.le_of_ble_eq_true rfl, Nat.le_of_ble_eq_true rfl⟩) wM_o rfl rfl rfl (Nat.le_of_ble_eq_true rfl) dX3_would_47 ⟨Nat.zero_le _, Nat.zero_le _⟩ (z_i ?_)
  exact z_iretE C dX3_would_50 rfl ⟨_, _, _, _, rfl, h0⟩
set_option maxRecDepth 100000 in
set_option maxHeartbeats 4000000 in
theorem c_X3_least_e1 (l : Launch) (g : zG) (q : Nat → Nat) (th : Int) (a : zS) (la : Nat → Int) (pe : Nat → Nat) (ga : Nat → Int) (sz : Nat → Nat) (ha : zOk a) (h0 : zM0 la pe) (x : Int32) (hx : zBad x (zNb a)) : zM g l yX3_least wsX3_least { frames := 9, cells := 0, slots := 0, locals := 207 } [.ref (q 0), .int x] (wM g q th a la pe ga sz) (zPie (nI 0) (zMw g q 1 a)) 0 0 := by
  refine zM.of (cc := cX3_least) (nL := 5) (ret := (some .int)) (lv := [(0, .ref (q 0)), (1, .int x)]) (by decide) rfl (Nat.le_of_ble_eq_true rfl) rfl ?_
  intro E C0 hi
  have C : zC g E cX3_least RX3 wsX3_least 5 (some .int) := C0
  obtain ⟨hnf, hnd, hnb, hou, hrs, hbd⟩ := id ha
  refine z_aload_n C dX3_least_0 0 rfl ?_
  refine z_iconst C (nI 0) dX3_least_1 (by decide) ?_
  refine z_put C inX3_least_X3 tyX3_ok nmX3 0 wM_o rfl 0 (by decide) (C.w 1 rfl) rfl (tyX3_ok 0 (by decide)) rfl rfl (Nat.le_of_ble_eq_true rfl) dX3_least_2 (wM_set_th 0) ?_
  refine z_aload_n C dX3_least_5 0 rfl ?_
  refine z_iload_n C dX3_least_6 1 rfl ?_
  refine z_callV C (c_X3_isBid_no l g q 0 a la pe ga sz ha x hx) (cwV 1 C.ts gX3_least_X3_isBid rfl rfl rfl (by decide +kernel) ⟨Nat.le_of_ble_eq_true rfl, Nat.le_of_ble_eq_true rfl⟩) wM_o rfl rfl rfl (Nat.le_of_ble_eq_true rfl) dX3_least_7 ⟨Nat.zero_le _, Nat.zero_le _⟩ (z_i ?_)
  refine z_if_ne C 19 dX3_least_10 (by decide) (zeq_B0 _) (fun h9 => absurd (by decide) h9) (fun c_10 => ?_)
  refine z_aload_n C dX3_least_13 0 rfl ?_
  refine z_iconst C (nI 1) dX3_least_14 (by decide) ?_
  refine z_callV C (c_X3_fail l g q 0 a la pe ga sz 1) (cwV 1 C.ts gX3_least_X3_fail rfl rfl rfl (by decide +kernel) ⟨Nat.le_of_ble_eq_true rfl, Nat.le_of_ble_eq_true rfl⟩) wM_o rfl rfl rfl (Nat.le_of_ble_eq_true rfl) dX3_least_15 ⟨Nat.zero_le _, Nat.zero_le _⟩ (z_i ?_)
  exact z_iretE C dX3_least_18 rfl ⟨_, _, _, _, rfl, h0⟩
