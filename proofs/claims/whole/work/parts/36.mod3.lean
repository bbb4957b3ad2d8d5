def zMw (g : zG) (q : Nat → Nat) (th : Int) (a : zS) : va_W → Prop := fun w' => ∃ (la : Nat → Int) (pe : Nat → Nat) (ga : Nat → Int) (sz : Nat → Nat), w' = wM g q th a la pe ga sz ∧ zM0 la pe
theorem mBest_4096 {a : zS} (ha : zOk a) : mBest a < 4096 := by
  have h1 := mBest_lt a
  have h2 : 2 ^ zNb a ≤ 2 ^ 12 := zp2_le ha.2.2.1
  omega
theorem inX3_sumWithout_X3 : ∀ w ∈ wsX30, w ∈ wsX3_sumWithout := fun w h => List.mem_cons_of_mem _ (List.mem_append_right _ (h))
set_option maxRecDepth 100000 in
set_option maxHeartbeats 4000000 in
theorem c_X3_sumWithout (l : Launch) (g : zG) (q : Nat → Nat) (th : Int) (a : zS) (la : Nat → Int) (pe : Nat → Nat) (ga : Nat → Int) (sz : Nat → Nat) (ha : zOk a) (h0 : zM0 la pe) (d : Nat) (hd : d < zNd a) : zM g l yX3_sumWithout wsX3_sumWithout { frames := 5, cells := 0, slots := 0, locals := 113 } [.ref (q 0), .int (nI d)] (wM g q th a la pe ga sz) (zPie (iZ (mWo a d)) (zMw g q th a)) 0 0 := by
  refine zM.of (cc := cX3_sumWithout) (nL := 4) (ret := (some .int)) (lv := [(0, .ref (q 0)), (1, .int (nI d))]) (by decide) rfl (Nat.le_of_ble_eq_true rfl) rfl ?_
  intro E C0 hi
  have C : zC g E cX3_sumWithout RX3 wsX3_sumWithout 4 (some .int) := C0
  obtain ⟨hnf, hnd, hnb, hou, hrs, hbd⟩ := id ha
  have hb12 := mBest_4096 (zOk_out ha hd)
  refine z_aload_n C dX3_sumWithout_0 0 rfl ?_
  refine z_get C inX3_sumWithout_X3 0 wM_o rfl 4 (by decide) (C.w 1 rfl) rfl dX3_sumWithout_1 ?_
  refine z_istore_n C dX3_sumWithout_4 (by decide) [(2, .int (nI (zOu a))), (0, .ref (q 0)), (1, .int (nI d))] rfl ?_
  refine z_aload_n C dX3_sumWithout_5 1 rfl ?_
  refine z_dup C dX3_sumWithout_6 rfl ?_
  refine z_get C inX3_sumWithout_X3 0 wM_o rfl 4 (by decide) (C.w 1 rfl) rfl dX3_sumWithout_7 ?_
  refine z_iconst C (nI 1) dX3_sumWithout_10 (by decide) ?_
  refine z_iload_n C dX3_sumWithout_11 2 rfl ?_
  refine z_ishl C dX3_sumWithout_12 (v := nI (2 ^ d)) (zshl_1N (by omega)) ?_
  refine z_ior C dX3_sumWithout_13 (v := nI ((zOu a) ||| (2 ^ d))) (zor_NN (zOu a) (2 ^ d)) ?_
  refine z_put C inX3_sumWithout_X3 tyX3_ok nmX3 0 wM_o rfl 4 (by decide) (C.w 1 rfl) rfl (tyX3_ok 4 (by decide)) rfl rfl (Nat.le_of_ble_eq_true rfl) dX3_sumWithout_14 (wM_set_ou _) ?_
  refine z_aload_n C dX3_sumWithout_17 1 rfl ?_
  refine z_get C inX3_sumWithout_X3 0 wM_o rfl 9 (by decide) (C.w 2 rfl) rfl dX3_sumWithout_18 ?_
  refine z_aload_n C dX3_sumWithout_21 1 rfl ?_
  refine z_callV C (c_X3_sale l g q th (zSetOu a (zOu a ||| 2 ^ d)) la pe ga sz (zOk_out ha hd) h0) (cwV 0 C.ts gX3_sumWithout_X3_sale rfl rfl rfl (by decide +kernel) ⟨Nat.le_of_ble_eq_true rfl, Nat.le_of_ble_eq_true rfl⟩) wM_o rfl rfl rfl (Nat.le_of_ble_eq_true rfl) dX3_sumWithout_22 ⟨Nat.zero_le _, Nat.zero_le _⟩ (z_ie ?_)
  rintro _ ⟨la22, pe22, ga22, sz22, rfl, hz22, hG22⟩
  refine z_ialdN C 5 wM_ga (by omega) (by decide) dX3_sumWithout_25 (v := iZ (ga22 (mBest (zSetOu a (zOu a ||| 2 ^ d))))) rfl ?_
  refine zW.top (y := iZ (mWo a d)) (congrArg iZ ((hG22 _ (mBest_lt _)).1.trans (mset_ou a _ _ 12).2.2)) ?_
  refine z_istore_n C dX3_sumWithout_26 (by decide) [(3, .int (iZ (mWo a d))), (2, .int (nI (zOu a))), (0, .ref (q 0)), (1, .int (nI d))] rfl ?_
  refine z_aload_n C dX3_sumWithout_27 2 rfl ?_
  refine z_iload_n C dX3_sumWithout_28 1 rfl ?_
  refine z_put C inX3_sumWithout_X3 tyX3_ok nmX3 0 wM_o rfl 4 (by decide) (C.w 1 rfl) rfl (tyX3_ok 4 (by decide)) rfl rfl (Nat.le_of_ble_eq_true rfl) dX3_sumWithout_29 (wM_set_ou (zOu a)) ?_
  rw [show zSetOu (zSetOu a (zOu a ||| 2 ^ d)) (zOu a) = a from rfl]
  refine z_iload_n C dX3_sumWithout_32 0 rfl ?_
  exact z_iretE C dX3_sumWithout_33 rfl ⟨_, _, _, _, rfl, hz22⟩
theorem inX3_bidOf_X3 : ∀ w ∈ wsX30, w ∈ wsX3_bidOf := fun w h => List.mem_cons_of_mem _ (List.mem_append_right _ (h))
set_option maxRecDepth 100000 in
set_option maxHeartbeats 4000000 in
theorem c_X3_bidOf (l : Launch) (g : zG) (q : Nat → Nat) (th : Int) (a : zS) (la : Nat → Int) (pe : Nat → Nat) (ga : Nat → Int) (sz : Nat → Nat) (ha : zOk a) (s d : Nat) (hs : s < 4096) (hd : d < 5) : zM g l yX3_bidOf wsX3_bidOf { frames := 1, cells := 0, slots := 0, locals := 22 } [.ref (q 0), .int (nI s), .int (nI d)] (wM g q th a la pe ga sz) (zPi (iZ (zFst (fun b => s.testBit b && decide (zOw a b = d)) 0 (zNb a))) (wM g q th a la pe ga sz)) 0 0 := by
  refine zM.of (cc := cX3_bidOf) (nL := 4) (ret := (some .int)) (lv := [(0, .ref (q 0)), (1, .int (nI s)), (2, .int (nI d))]) (by decide) rfl (Nat.le_of_ble_eq_true rfl) rfl ?_
  intro E C0 hi
  have C : zC g E cX3_bidOf RX3 wsX3_bidOf 4 (some .int) := C0
  obtain ⟨hnf, hnd, hnb, hou, hrs, hbd⟩ := id ha
  refine z_iconst C (nI 0) dX3_bidOf_0 (by decide) ?_
  refine z_istore_n C dX3_bidOf_1 (by decide) [(3, .int (nI 0)), (0, .ref (q 0)), (1, .int (nI s)), (2, .int (nI d))] rfl ?_
  refine zW.pick (lv' := [(0, .ref (q 0)), (1, .int (nI s)), (2, .int (nI d)), (3, .int (nI 0))]) [1, 2, 3, 0] rfl ?_
  have hlp2 : ∀ (k i : Nat), i + k = zNb a → (zFst (fun b => s.testBit b && decide (zOw a b = d)) i k = zFst (fun b => s.testBit b && decide (zOw a b = d)) 0 (zNb a)) → zW g l ({ frames := 1, cells := 0, slots := 0, locals := 22 }) E (zMQ g E (zPi (iZ (zFst (fun b => s.testBit b && decide (zOw a b = d)) 0 (zNb a))) (wM g q th a la pe ga sz)) 0 0) 4 0 0 (wM g q th a la pe ga sz) [(0, .ref (q 0)), (1, .int (nI s)), (2, .int (nI d)), (3, .int (nI i))] [] 2 := by
    intro k
    induction k with
    | zero =>
      intro i hik hr
      refine z_iload_n C dX3_bidOf_2 3 rfl ?_
      refine z_aload_n C dX3_bidOf_3 0 rfl ?_
      refine z_get C inX3_bidOf_X3 0 wM_o rfl 3 (by decide) (C.w 1 rfl) rfl dX3_bidOf_4 ?_
      refine z_icmp_ge C 37 dX3_bidOf_7 (by decide) (zle_NN (by omega) (by omega)) (fun c_7 => ?_) (fun h9 => absurd (by omega) h9)
      refine z_iconst C (iZ (-1)) dX3_bidOf_37 (by decide) ?_
      exact z_iretP C dX3_bidOf_38 (by rw [← hr]; rfl) rfl
    | succ k ih2 =>
      intro i hik hr
      refine z_iload_n C dX3_bidOf_2 3 rfl ?_
      refine z_aload_n C dX3_bidOf_3 0 rfl ?_
      refine z_get C inX3_bidOf_X3 0 wM_o rfl 3 (by decide) (C.w 1 rfl) rfl dX3_bidOf_4 ?_
      refine z_icmp_ge C 37 dX3_bidOf_7 (by decide) (zle_NN (by omega) (by omega)) (fun h9 => absurd h9 (by omega)) (fun c_7 => ?_)
      refine z_iload_n C dX3_bidOf_10 1 rfl ?_
      refine z_iload_n C dX3_bidOf_11 3 rfl ?_
      refine z_callS C (c_X3_bit l g (wM g q th a la pe ga sz) s i (by omega) (by omega)) (va_cwS 2 C.ts gX3_bidOf_X3_bit rfl rfl rfl (by decide +kernel) ⟨Nat.le_of_ble_eq_true rfl, Nat.le_of_ble_eq_true rfl⟩) rfl rfl (Nat.le_of_ble_eq_true rfl) dX3_bidOf_12 ⟨Nat.zero_le _, Nat.zero_le _⟩ (z_i ?_)
      refine z_iconst C (nI 1) dX3_bidOf_15 (by decide) ?_
      refine z_icmp_ne C 31 dX3_bidOf_16 (by decide) (zeq_B1 _) (fun c_16 => ?_) (fun c_16 => ?_)
      · skip
        refine z_iinc C dX3_bidOf_31 3 (nI (i + 1)) rfl (nI_add i 1) (by decide) [(3, .int (nI (i + 1))), (0, .ref (q 0)), (1, .int (nI s)), (2, .int (nI d))] rfl ?_
        refine z_goto C 2 dX3_bidOf_34 (by decide) ?_
        refine zW.pick (lv' := [(0, .ref (q 0)), (1, .int (nI s)), (2, .int (nI d)), (3, .int (nI (i + 1)))]) [1, 2, 3, 0] rfl ?_
        exact ih2 (i + 1) (by omega) (by rw [← hr]; simp_all [zFst])
      · skip
        refine z_aload_n C dX3_bidOf_19 0 rfl ?_
        refine z_iload_n C dX3_bidOf_20 3 rfl ?_
        refine z_iconst C (nI 0) dX3_bidOf_21 (by decide) ?_
        refine z_callV C (c_X3_bi_0 l g q th a la pe ga sz i (by omega)) (cwV 2 C.ts gX3_bidOf_X3_bi rfl rfl rfl (by decide +kernel) ⟨Nat.le_of_ble_eq_true rfl, Nat.le_of_ble_eq_true rfl⟩) wM_o rfl rfl rfl (Nat.le_of_ble_eq_true rfl) dX3_bidOf_22 ⟨Nat.zero_le _, Nat.zero_le _⟩ (z_i ?_)
        have f_22 := ha.ow (b := i) (by omega)
        refine z_iload_n C dX3_bidOf_25 2 rfl ?_
        refine z_icmp_ne C 31 dX3_bidOf_26 (by decide) (zeq_NN (by omega) (by omega)) (fun c_26 => ?_) (fun c_26 => ?_)
        · skip
          refine z_iinc C dX3_bidOf_31 3 (nI (i + 1)) rfl (nI_add i 1) (by decide) [(3, .int (nI (i + 1))), (0, .ref (q 0)), (1, .int (nI s)), (2, .int (nI d))] rfl ?_
          refine z_goto C 2 dX3_bidOf_34 (by decide) ?_
          refine zW.pick (lv' := [(0, .ref (q 0)), (1, .int (nI s)), (2, .int (nI d)), (3, .int (nI (i + 1)))]) [1, 2, 3, 0] rfl ?_
          exact ih2 (i + 1) (by omega) (by rw [← hr]; simp_all [zFst])
        · skip
          refine z_iload_n C dX3_bidOf_29 3 rfl ?_
          exact z_iretP C dX3_bidOf_30 (by rw [← hr]; simp [zFst, c_16, c_26]; rfl) rfl
  exact hlp2 (zNb a) 0 (by omega) rfl
theorem inX3_paid_X3 : ∀ w ∈ wsX30, w ∈ wsX3_paid := fun w h => List.mem_cons_of_mem _ (List.mem_append_right _ (h))
set_option maxRecDepth 100000 in
set_option maxHeartbeats 4000000 in
theorem c_X3_paid (l : Launch) (g : zG) (q : Nat → Nat) (th : Int) (a : zS) (la : Nat → Int) (pe : Nat → Nat) (ga : Nat → Int) (sz : Nat → Nat) (ha : zOk a) (h0 : zM0 la pe) (d : Nat) (hd : d < zNd a) : zM g l yX3_paid wsX3_paid { frames := 6, cells := 0, slots := 0, locals := 136 } [.ref (q 0), .int (nI d)] (wM g q th a la pe ga sz) (zPie (iZ (aPaid a d)) (zMw g q th a)) 0 0 := by
  refine zM.of (cc := cX3_paid) (nL := 5) (ret := (some .int)) (lv := [(0, .ref (q 0)), (1, .int (nI d))]) (by decide) rfl (Nat.le_of_ble_eq_true rfl) rfl ?_
  intro E C0 hi
  have C : zC g E cX3_paid RX3 wsX3_paid 5 (some .int) := C0
  obtain ⟨hnf, hnd, hnb, hou, hrs, hbd⟩ := id ha
  have hb12 := mBest_4096 ha
  refine z_aload_n C dX3_paid_0 0 rfl ?_
  refine z_callV C (c_X3_sale l g q th a la pe ga sz ha h0) (cwV 0 C.ts gX3_paid_X3_sale rfl rfl rfl (by decide +kernel) ⟨Nat.le_of_ble_eq_true rfl, Nat.le_of_ble_eq_true rfl⟩) wM_o rfl rfl rfl (Nat.le_of_ble_eq_true rfl) dX3_paid_1 ⟨Nat.zero_le _, Nat.zero_le _⟩ (z_ie ?_)
  rintro _ ⟨la1, pe1, ga1, sz1, rfl, hz1, hG1⟩
  refine z_istore_n C dX3_paid_4 (by decide) [(2, .int (nI (mBest a))), (0, .ref (q 0)), (1, .int (nI d))] rfl ?_
  refine z_aload_n C dX3_paid_5 1 rfl ?_
  refine z_iload_n C dX3_paid_6 0 rfl ?_
  refine z_iload_n C dX3_paid_7 2 rfl ?_
  refine z_callV C (c_X3_bidOf l g q th a la1 pe1 ga1 sz1 ha (mBest a) d (by omega) (by omega)) (cwV 2 C.ts gX3_paid_X3_bidOf rfl rfl rfl (by decide +kernel) ⟨Nat.le_of_ble_eq_true rfl, Nat.le_of_ble_eq_true rfl⟩) wM_o rfl rfl rfl (Nat.le_of_ble_eq_true rfl) dX3_paid_8 ⟨Nat.zero_le _, Nat.zero_le _⟩ (z_i ?_)
  rcases zFst_or (fun b => (mBest a).testBit b && decide (zOw a b = d)) (zNb a) 0 with hwn | ⟨c, hc, hce, -⟩
  · skip
    have hwn : mBo a d = -1 := hwn
    refine zW.top (y := iZ (-1)) (congrArg iZ hwn) ?_
    refine z_istore_n C dX3_paid_11 (by decide) [(3, .int (iZ (-1))), (2, .int (nI (mBest a))), (0, .ref (q 0)), (1, .int (nI d))] rfl ?_
    refine z_iload_n C dX3_paid_12 0 rfl ?_
    refine z_iconst C (iZ (-1)) dX3_paid_13 (by decide) ?_
    refine z_icmp_ne C 19 dX3_paid_14 (by decide) (zeq_ZZ (x := (-1)) (y := (-1)) (by unfold zB31; omega) (by unfold zB31; omega)) (fun h9 => absurd (by decide) h9) (fun c_14 => ?_)
    refine z_iconst C (nI 0) dX3_paid_17 (by decide) ?_
    exact z_iretE C dX3_paid_18 (by rw [← mPaid_eq ha hd]; unfold mPaid; rw [if_pos hwn]; rfl) ⟨_, _, _, _, rfl, hz1⟩
  · skip
    rw [Nat.zero_add] at hc
    have hwn : mBo a d = (c : Int) := hce
    refine zW.top (y := nI c) (by rw [hce]; rfl) ?_
    refine z_istore_n C dX3_paid_11 (by decide) [(3, .int (nI c)), (2, .int (nI (mBest a))), (0, .ref (q 0)), (1, .int (nI d))] rfl ?_
    refine z_iload_n C dX3_paid_12 0 rfl ?_
    refine z_iconst C (iZ (-1)) dX3_paid_13 (by decide) ?_
    refine z_icmp_ne C 19 dX3_paid_14 (by decide) (zeq_ZZ (x := ((c : Nat) : Int)) (y := (-1)) (by unfold zB31; omega) (by unfold zB31; omega)) (fun c_14 => ?_) (fun h9 => absurd h9 (by omega))
    refine z_aload_n C dX3_paid_19 2 rfl ?_
    refine z_get C inX3_paid_X3 0 wM_o rfl 9 (by decide) (C.w 1 rfl) rfl dX3_paid_20 ?_
    refine z_iload_n C dX3_paid_23 1 rfl ?_
    refine z_ialdN C 5 wM_ga (by omega) (by decide) dX3_paid_24 (v := iZ (ga1 (mBest a))) rfl ?_
    refine zW.top (y := iZ (mGa a (mBest a))) (congrArg iZ (hG1 _ (mBest_lt _)).1) ?_
    refine z_aload_n C dX3_paid_25 2 rfl ?_
    refine z_iload_n C dX3_paid_26 0 rfl ?_
    refine z_callV C (c_X3_gain l g q th a la1 pe1 ga1 sz1 ha c (by omega)) (cwV 1 C.ts gX3_paid_X3_gain rfl rfl rfl (by decide +kernel) ⟨Nat.le_of_ble_eq_true rfl, Nat.le_of_ble_eq_true rfl⟩) wM_o rfl rfl rfl (Nat.le_of_ble_eq_true rfl) dX3_paid_27 ⟨Nat.zero_le _, Nat.zero_le _⟩ (z_i ?_)
    have f_27 := zGn_bnd ha (b := c) (by omega)
    refine z_isub C dX3_paid_30 (v := iZ ((mGa a (mBest a)) - (zGn a c))) (iZ_sub (mGa a (mBest a)) (zGn a c)) ?_
    refine z_istore C dX3_paid_31 (by decide) [(4, .int (iZ ((mGa a (mBest a)) - (zGn a c)))), (3, .int (nI c)), (2, .int (nI (mBest a))), (0, .ref (q 0)), (1, .int (nI d))] rfl ?_
    refine z_aload_n C dX3_paid_33 3 rfl ?_
    refine z_aload_n C dX3_paid_34 3 rfl ?_
    refine z_iload_n C dX3_paid_35 1 rfl ?_
    refine z_iconst C (nI 1) dX3_paid_36 (by decide) ?_
    refine z_callV C (c_X3_bi_1 l g q th a la1 pe1 ga1 sz1 c (by omega)) (cwV 2 C.ts gX3_paid_X3_bi rfl rfl rfl (by decide +kernel) ⟨Nat.le_of_ble_eq_true rfl, Nat.le_of_ble_eq_true rfl⟩) wM_o rfl rfl rfl (Nat.le_of_ble_eq_true rfl) dX3_paid_37 ⟨Nat.zero_le _, Nat.zero_le _⟩ (z_i ?_)
    have f_37 := ha.bu8 (b := c) (by omega)
    refine z_callV C (c_X3_reserveOf l g q th a la1 pe1 ga1 sz1 ha (zBu a c) (by omega)) (cwV 1 C.ts gX3_paid_X3_reserveOf rfl rfl rfl (by decide +kernel) ⟨Nat.le_of_ble_eq_true rfl, Nat.le_of_ble_eq_true rfl⟩) wM_o rfl rfl rfl (Nat.le_of_ble_eq_true rfl) dX3_paid_40 ⟨Nat.zero_le _, Nat.zero_le _⟩ (z_i ?_)
    refine z_aload_n C dX3_paid_43 3 rfl ?_
    refine z_iload_n C dX3_paid_44 4 rfl ?_
    refine z_callV C (c_X3_sumWithout l g q th a la1 pe1 ga1 sz1 ha hz1 d (by omega)) (cwV 1 C.ts gX3_paid_X3_sumWithout rfl rfl rfl (by decide +kernel) ⟨Nat.le_of_ble_eq_true rfl, Nat.le_of_ble_eq_true rfl⟩) wM_o rfl rfl rfl (Nat.le_of_ble_eq_true rfl) dX3_paid_45 ⟨Nat.zero_le _, Nat.zero_le _⟩ (z_ie ?_)
    rintro _ ⟨la45, pe45, ga45, sz45, rfl, hz45⟩
    refine z_iadd C dX3_paid_48 (v := iZ (((zRes a (zBu a c) : Nat) : Int) + (mWo a d))) (iZ_add ((zRes a (zBu a c) : Nat) : Int) (mWo a d)) ?_
    refine z_iload C dX3_paid_49 0 rfl ?_
    refine z_isub C dX3_paid_51 (v := iZ ((((zRes a (zBu a c) : Nat) : Int) + (mWo a d)) - ((mGa a (mBest a)) - (zGn a c)))) (iZ_sub (((zRes a (zBu a c) : Nat) : Int) + (mWo a d)) ((mGa a (mBest a)) - (zGn a c))) ?_
    exact z_iretE C dX3_paid_52 (by rw [← mPaid_eq ha hd]; unfold mPaid; rw [hwn, if_neg (by omega)]; rfl) ⟨_, _, _, _, rfl, hz45⟩
set_option maxRecDepth 100000 in
set_option maxHeartbeats 4000000 in
theorem c_X3_profit (l : Launch) (g : zG) (q : Nat → Nat) (th : Int) (a : zS) (la : Nat → Int) (pe : Nat → Nat) (ga : Nat → Int) (sz : Nat → Nat) (ha : zOk a) (h0 : zM0 la pe) (d : Nat) (hd : d < zNd a) : zM g l yX3_profit wsX3_profit { frames := 7, cells := 0, slots := 0, locals := 160 } [.ref (q 0), .int (nI d)] (wM g q th a la pe ga sz) (zPie (iZ (aProf a d)) (zMw g q th a)) 0 0 := by
  refine zM.of (cc := cX3_profit) (nL := 3) (ret := (some .int)) (lv := [(0, .ref (q 0)), (1, .int (nI d))]) (by decide) rfl (Nat.le_of_ble_eq_true rfl) rfl ?_
  intro E C0 hi
  have C : zC g E cX3_profit RX3 wsX3_profit 3 (some .int) := C0
  obtain ⟨hnf, hnd, hnb, hou, hrs, hbd⟩ := id ha
  have hb12 := mBest_4096 ha
  refine z_aload_n C dX3_profit_0 0 rfl ?_
  refine z_aload_n C dX3_profit_1 0 rfl ?_
  refine z_callV C (c_X3_sale l g q th a la pe ga sz ha h0) (cwV 0 C.ts gX3_profit_X3_sale rfl rfl rfl (by decide +kernel) ⟨Nat.le_of_ble_eq_true rfl, Nat.le_of_ble_eq_true rfl⟩) wM_o rfl rfl rfl (Nat.le_of_ble_eq_true rfl) dX3_profit_2 ⟨Nat.zero_le _, Nat.zero_le _⟩ (z_ie ?_)
  rintro _ ⟨la2, pe2, ga2, sz2, rfl, hz2, hG2⟩
  refine z_iload_n C dX3_profit_5 1 rfl ?_
  refine z_callV C (c_X3_bidOf l g q th a la2 pe2 ga2 sz2 ha (mBest a) d (by omega) (by omega)) (cwV 2 C.ts gX3_profit_X3_bidOf rfl rfl rfl (by decide +kernel) ⟨Nat.le_of_ble_eq_true rfl, Nat.le_of_ble_eq_true rfl⟩) wM_o rfl rfl rfl (Nat.le_of_ble_eq_true rfl) dX3_profit_6 ⟨Nat.zero_le _, Nat.zero_le _⟩ (z_i ?_)
  rcases zFst_or (fun b => (mBest a).testBit b && decide (zOw a b = d)) (zNb a) 0 with hwn | ⟨c, hc, hce, -⟩
  · skip
    have hwn : mBo a d = -1 := hwn
    refine zW.top (y := iZ (-1)) (congrArg iZ hwn) ?_
    refine z_istore_n C dX3_profit_9 (by decide) [(2, .int (iZ (-1))), (0, .ref (q 0)), (1, .int (nI d))] rfl ?_
    refine z_iload_n C dX3_profit_10 0 rfl ?_
    refine z_iconst C (iZ (-1)) dX3_profit_11 (by decide) ?_
    refine z_icmp_ne C 19 dX3_profit_12 (by decide) (zeq_ZZ (x := (-1)) (y := (-1)) (by unfold zB31; omega) (by unfold zB31; omega)) (fun h9 => absurd (by decide) h9) (fun c_12 => ?_)
    refine z_iconst C (nI 0) dX3_profit_15 (by decide) ?_
    refine z_goto C 31 dX3_profit_16 (by decide) ?_
    exact z_iretE C dX3_profit_31 (by unfold aProf zPfv; rw [← mBo_win ha, hwn, if_pos rfl]; rfl) ⟨_, _, _, _, rfl, hz2⟩
  · skip
    rw [Nat.zero_add] at hc
    have hwn : mBo a d = (c : Int) := hce
    refine zW.top (y := nI c) (by rw [hce]; rfl) ?_
    refine z_istore_n C dX3_profit_9 (by decide) [(2, .int (nI c)), (0, .ref (q 0)), (1, .int (nI d))] rfl ?_
    refine z_iload_n C dX3_profit_10 0 rfl ?_
    refine z_iconst C (iZ (-1)) dX3_profit_11 (by decide) ?_
    refine z_icmp_ne C 19 dX3_profit_12 (by decide) (zeq_ZZ (x := ((c : Nat) : Int)) (y := (-1)) (by unfold zB31; omega) (by unfold zB31; omega)) (fun c_12 => ?_) (fun h9 => absurd h9 (by omega))
    refine z_aload_n C dX3_profit_19 1 rfl ?_
    refine z_iload_n C dX3_profit_20 0 rfl ?_
    refine z_iconst C (nI 3) dX3_profit_21 (by decide) ?_
    refine z_callV C (c_X3_bi_3 l g q th a la2 pe2 ga2 sz2 c (by omega)) (cwV 2 C.ts gX3_profit_X3_bi rfl rfl rfl (by decide +kernel) ⟨Nat.le_of_ble_eq_true rfl, Nat.le_of_ble_eq_true rfl⟩) wM_o rfl rfl rfl (Nat.le_of_ble_eq_true rfl) dX3_profit_22 ⟨Nat.zero_le _, Nat.zero_le _⟩ (z_i ?_)
    have f_22 := ha.wo (b := c) (by omega)
    refine z_aload_n C dX3_profit_25 1 rfl ?_
    refine z_iload_n C dX3_profit_26 2 rfl ?_
    refine z_callV C (c_X3_paid l g q th a la2 pe2 ga2 sz2 ha hz2 d (by omega)) (cwV 1 C.ts gX3_profit_X3_paid rfl rfl rfl (by decide +kernel) ⟨Nat.le_of_ble_eq_true rfl, Nat.le_of_ble_eq_true rfl⟩) wM_o rfl rfl rfl (Nat.le_of_ble_eq_true rfl) dX3_profit_27 ⟨Nat.zero_le _, Nat.zero_le _⟩ (z_ie ?_)
    rintro _ ⟨la27, pe27, ga27, sz27, rfl, hz27⟩
    refine z_isub C dX3_profit_30 (v := iZ (((zWo a c : Nat) : Int) - (aPaid a d))) (iZ_sub ((zWo a c : Nat) : Int) (aPaid a d)) ?_
    exact z_iretE C dX3_profit_31 (by unfold aProf zPfv; rw [← mBo_win ha, hwn, if_neg (by omega)]; rfl) ⟨_, _, _, _, rfl, hz27⟩
theorem inX3_allPaid_X3 : ∀ w ∈ wsX30, w ∈ wsX3_allPaid := fun w h => List.mem_cons_of_mem _ (List.mem_append_right _ (h))
set_option maxRecDepth 100000 in
set_option maxHeartbeats 4000000 in
theorem c_X3_allPaid (l : Launch) (g : zG) (q : Nat → Nat) (th : Int) (a : zS) (la : Nat → Int) (pe : Nat → Nat) (ga : Nat → Int) (sz : Nat → Nat) (ha : zOk a) (h0 : zM0 la pe)  : zM g l yX3_allPaid wsX3_allPaid { frames := 7, cells := 0, slots := 0, locals := 160 } [.ref (q 0)] (wM g q th a la pe ga sz) (zPie (iZ (zSi (aPaid a) (zNd a))) (zMw g q th a)) 0 0 := by
  refine zM.of (cc := cX3_allPaid) (nL := 3) (ret := (some .int)) (lv := [(0, .ref (q 0))]) (by decide) rfl (Nat.le_of_ble_eq_true rfl) rfl ?_
  intro E C0 hi
  have C : zC g E cX3_allPaid RX3 wsX3_allPaid 3 (some .int) := C0
  obtain ⟨hnf, hnd, hnb, hou, hrs, hbd⟩ := id ha
  refine z_iconst C (nI 0) dX3_allPaid_0 (by decide) ?_
  refine z_istore_n C dX3_allPaid_1 (by decide) [(1, .int (nI 0)), (0, .ref (q 0))] rfl ?_
  refine z_iconst C (nI 0) dX3_allPaid_2 (by decide) ?_
  refine z_istore_n C dX3_allPaid_3 (by decide) [(2, .int (nI 0)), (1, .int (nI 0)), (0, .ref (q 0))] rfl ?_
  refine zW.pick (lv' := [(0, .ref (q 0)), (1, .int (nI 0)), (2, .int (nI 0))]) [2, 1, 0] rfl ?_
  have hlp4 : ∀ (k i : Nat) (la1 : Nat → Int) (pe1 : Nat → Nat) (ga1 : Nat → Int) (sz1 : Nat → Nat), i + k = zNd a → (zM0 la1 pe1) → zW g l ({ frames := 7, cells := 0, slots := 0, locals := 160 }) E (zMQ g E (zPie (iZ (zSi (aPaid a) (zNd a))) (zMw g q th a)) 0 0) 3 0 0 (wM g q th a la1 pe1 ga1 sz1) [(0, .ref (q 0)), (1, .int (iZ (zSi (aPaid a) i))), (2, .int (nI i))] [] 4 := by
    intro k
    induction k with
    | zero =>
      intro i la1 pe1 ga1 sz1 hik hz1
      refine z_iload_n C dX3_allPaid_4 2 rfl ?_
      refine z_aload_n C dX3_allPaid_5 0 rfl ?_
      refine z_get C inX3_allPaid_X3 0 wM_o rfl 2 (by decide) (C.w 1 rfl) rfl dX3_allPaid_6 ?_
      refine z_icmp_ge C 26 dX3_allPaid_9 (by decide) (zle_NN (by omega) (by omega)) (fun c_9 => ?_) (fun h9 => absurd (by omega) h9)
      refine z_iload_n C dX3_allPaid_26 1 rfl ?_
      exact z_iretE C dX3_allPaid_27 (by rw [show i = zNd a by omega]) ⟨_, _, _, _, rfl, hz1⟩
    | succ k ih4 =>
      intro i la1 pe1 ga1 sz1 hik hz1
      refine z_iload_n C dX3_allPaid_4 2 rfl ?_
      refine z_aload_n C dX3_allPaid_5 0 rfl ?_
      refine z_get C inX3_allPaid_X3 0 wM_o rfl 2 (by decide) (C.w 1 rfl) rfl dX3_allPaid_6 ?_
      refine z_icmp_ge C 26 dX3_allPaid_9 (by decide) (zle_NN (by omega) (by omega)) (fun h9 => absurd h9 (by omega)) (fun c_9 => ?_)
      refine z_iload_n C dX3_allPaid_12 1 rfl ?_
      refine z_aload_n C dX3_allPaid_13 0 rfl ?_
      refine z_iload_n C dX3_allPaid_14 2 rfl ?_
      refine z_callV C (c_X3_paid l g q th a la1 pe1 ga1 sz1 ha hz1 i (by omega)) (cwV 1 C.ts gX3_allPaid_X3_paid rfl rfl rfl (by decide +kernel) ⟨Nat.le_of_ble_eq_true rfl, Nat.le_of_ble_eq_true rfl⟩) wM_o rfl rfl rfl (Nat.le_of_ble_eq_true rfl) dX3_allPaid_15 ⟨Nat.zero_le _, Nat.zero_le _⟩ (z_ie ?_)
      rintro _ ⟨la15, pe15, ga15, sz15, rfl, hz15⟩
      refine z_iadd C dX3_allPaid_18 (v := iZ ((zSi (aPaid a) i) + (aPaid a i))) (iZ_add (zSi (aPaid a) i) (aPaid a i)) ?_
      refine z_istore_n C dX3_allPaid_19 (by decide) [(1, .int (iZ ((zSi (aPaid a) i) + (aPaid a i)))), (0, .ref (q 0)), (2, .int (nI i))] rfl ?_
      refine z_iinc C dX3_allPaid_20 2 (nI (i + 1)) rfl (nI_add i 1) (by decide) [(2, .int (nI (i + 1))), (1, .int (iZ ((zSi (aPaid a) i) + (aPaid a i)))), (0, .ref (q 0))] rfl ?_
      refine z_goto C 4 dX3_allPaid_23 (by decide) ?_
      refine zW.pick (lv' := [(0, .ref (q 0)), (1, .int (iZ ((zSi (aPaid a) i) + (aPaid a i)))), (2, .int (nI (i + 1)))]) [2, 1, 0] rfl ?_
      refine zW.lve (lv' := [(0, .ref (q 0)), (1, .int (iZ (zSi (aPaid a) (i + 1)))), (2, .int (nI (i + 1)))]) (rfl) ?_
      exact ih4 (i + 1) la15 pe15 ga15 sz15 (by omega) hz15
  exact hlp4 (zNd a) 0 la pe ga sz (by omega) h0
set_option maxRecDepth 100000 in
set_option maxHeartbeats 4000000 in
theorem c_X3_isIn_ok  (l : Launch) (g : zG) (w : va_W) (v lo hi : Nat) (h1 : lo ≤ v) (h2 : v ≤ hi) (h3 : hi < 2147483648) : zM g l yX3_isIn wsX3_isIn { frames := 0, cells := 0, slots := 0, locals := 0 } [.int (nI v), .int (nI lo), .int (nI hi)] (w) (zPi (bI true) (w)) 0 0 := by
  refine zM.of (cc := cX3_isIn) (nL := 3) (ret := (some .boolean)) (lv := [(0, .int (nI v)), (1, .int (nI lo)), (2, .int (nI hi))]) (by decide) rfl (Nat.le_of_ble_eq_true rfl) rfl ?_
  intro E C0 hi
  have C : zC g E cX3_isIn RX3 wsX3_isIn 3 (some .boolean) := C0
  refine z_iload_n C dX3_isIn_0 0 rfl ?_
  refine z_iload_n C dX3_isIn_1 1 rfl ?_
  refine z_icmp_lt C 14 dX3_isIn_2 (by decide) (zlt_NN (by omega) (by omega)) (fun h9 => absurd h9 (by omega)) (fun c_2 => ?_)
  refine z_iload_n C dX3_isIn_5 0 rfl ?_
  refine z_iload_n C dX3_isIn_6 2 rfl ?_
  refine z_icmp_gt C 14 dX3_isIn_7 (by decide) (zlt_NN (by omega) (by omega)) (fun h9 => absurd h9 (by omega)) (fun c_7 => ?_)
  refine z_iconst C (nI 1) dX3_isIn_10 (by decide) ?_
  refine z_goto C 15 dX3_isIn_11 (by decide) ?_
  exact z_zretP C dX3_isIn_15 rfl rfl
set_option maxRecDepth 100000 in
set_option maxHeartbeats 4000000 in
theorem c_X3_isIn_no  (l : Launch) (g : zG) (w : va_W) (x lo hi : Int32) (h : x < lo ∨ hi < x) : zM g l yX3_isIn wsX3_isIn { frames := 0, cells := 0, slots := 0, locals := 0 } [.int x, .int lo, .int hi] (w) (zPi (bI false) (w)) 0 0 := by
  refine zM.of (cc := cX3_isIn) (nL := 3) (ret := (some .boolean)) (lv := [(0, .int x), (1, .int lo), (2, .int hi)]) (by decide) rfl (Nat.le_of_ble_eq_true rfl) rfl ?_
  intro E C0 hi
  have C : zC g E cX3_isIn RX3 wsX3_isIn 3 (some .boolean) := C0
  refine z_iload_n C dX3_isIn_0 0 rfl ?_
  refine z_iload_n C dX3_isIn_1 1 rfl ?_
  refine z_icmp_lt C 14 dX3_isIn_2 (by decide) Iff.rfl (fun c_2 => ?_) (fun c_2 => ?_)
  · skip
    refine z_iconst C (nI 0) dX3_isIn_14 (by decide) ?_
    exact z_zretP C dX3_isIn_15 rfl rfl
  · skip
    refine z_iload_n C dX3_isIn_5 0 rfl ?_
    refine z_iload_n C dX3_isIn_6 2 rfl ?_
    refine z_icmp_gt C 14 dX3_isIn_7 (by decide) Iff.rfl (fun c_7 => ?_) (fun h9 => absurd (h.resolve_left c_2) h9)
    refine z_iconst C (nI 0) dX3_isIn_14 (by decide) ?_
    exact z_zretP C dX3_isIn_15 rfl rfl
/-- not one of the numbers below n -/
def zBad (x : Int32) (n : Nat) : Prop := x.toInt < 0 ∨ (n : Int) ≤ x.toInt
theorem zbad_lo {x : Int32} {n : Nat} (hn : n < 2147483648) : zBad x n ↔ (x < nI 0 ∨ nI n ≤ x) := by
  unfold zBad
  rw [Int32.lt_iff_toInt_lt, Int32.le_iff_toInt_le, nI_toInt (n := 0) (by decide), nI_toInt hn]
  rfl
theorem zbad_hi {x : Int32} {n : Nat} (hn : n < 2147483648) (h : zBad x n) : x < nI 0 ∨ iZ ((n : Int) - 1) < x := by
  unfold zBad at h
  rw [Int32.lt_iff_toInt_lt, Int32.lt_iff_toInt_lt, nI_toInt (n := 0) (by decide), iZ_toInt (by unfold zB31; omega)]
  omega
theorem zbad_top {x : Int32} {n : Nat} (hn : n < 2147483647) (h : zBad x (n + 1)) : x < nI 0 ∨ nI n < x := by
  unfold zBad at h
  rw [Int32.lt_iff_toInt_lt, Int32.lt_iff_toInt_lt, nI_toInt (n := 0) (by decide), nI_toInt (by omega)]
  omega
theorem zcase (x : Int32) {n : Nat} (hn : n < 2147483648) : zBad x n ∨ ∃ j, j < n ∧ x = nI j := by
  rcases pk_ix x hn with h | h | h
  · exact Or.inl ((zbad_lo hn).mpr (Or.inl h))
  · exact Or.inl ((zbad_lo hn).mpr (Or.inr h))
  · exact Or.inr h
set_option maxRecDepth 100000 in
set_option maxHeartbeats 4000000 in
theorem c_X3_isPrice_ok  (l : Launch) (g : zG) (w : va_W) (v : Nat) (h : v ≤ 999) : zM g l yX3_isPrice wsX3_isPrice { frames := 1, cells := 0, slots := 0, locals := 22 } [.int (nI v)] (w) (zPi (bI true) (w)) 0 0 := by
  refine zM.of (cc := cX3_isPrice) (nL := 1) (ret := (some .boolean)) (lv := [(0, .int (nI v))]) (by decide) rfl (Nat.le_of_ble_eq_true rfl) rfl ?_
  intro E C0 hi
  have C : zC g E cX3_isPrice RX3 wsX3_isPrice 1 (some .boolean) := C0
  refine z_iload_n C dX3_isPrice_0 0 rfl ?_
  refine z_iconst C (nI 0) dX3_isPrice_1 (by decide) ?_
  refine z_sipush C (nI 999) dX3_isPrice_2 (by decide) ?_
  refine z_callS C (c_X3_isIn_ok l g w v 0 999 (by omega) (by omega) (by omega)) (va_cwS 3 C.ts gX3_isPrice_X3_isIn rfl rfl rfl (by decide +kernel) ⟨Nat.le_of_ble_eq_true rfl, Nat.le_of_ble_eq_true rfl⟩) rfl rfl (Nat.le_of_ble_eq_true rfl) dX3_isPrice_5 ⟨Nat.zero_le _, Nat.zero_le _⟩ (z_i ?_)
  exact z_zretP C dX3_isPrice_8 rfl rfl
set_option maxRecDepth 100000 in
set_option maxHeartbeats 4000000 in
theorem c_X3_isPrice_no  (l : Launch) (g : zG) (w : va_W) (x : Int32) (h : zBad x 1000) : zM g l yX3_isPrice wsX3_isPrice { frames := 1, cells := 0, slots := 0, locals := 22 } [.int x] (w) (zPi (bI false) (w)) 0 0 := by
  refine zM.of (cc := cX3_isPrice) (nL := 1) (ret := (some .boolean)) (lv := [(0, .int x)]) (by decide) rfl (Nat.le_of_ble_eq_true rfl) rfl ?_
  intro E C0 hi
  have C : zC g E cX3_isPrice RX3 wsX3_isPrice 1 (some .boolean) := C0
  refine z_iload_n C dX3_isPrice_0 0 rfl ?_
  refine z_iconst C (nI 0) dX3_isPrice_1 (by decide) ?_
  refine z_sipush C (nI 999) dX3_isPrice_2 (by decide) ?_
  refine z_callS C (c_X3_isIn_no l g w (x) (nI 0) (nI 999) (zbad_top (n := 999) (by decide) h)) (va_cwS 3 C.ts gX3_isPrice_X3_isIn rfl rfl rfl (by decide +kernel) ⟨Nat.le_of_ble_eq_true rfl, Nat.le_of_ble_eq_true rfl⟩) rfl rfl (Nat.le_of_ble_eq_true rfl) dX3_isPrice_5 ⟨Nat.zero_le _, Nat.zero_le _⟩ (z_i ?_)
  exact z_zretP C dX3_isPrice_8 rfl rfl
theorem inX3_isField_X3 : ∀ w ∈ wsX30, w ∈ wsX3_isField := fun w h => List.mem_cons_of_mem _ (List.mem_append_right _ (h))
set_option maxRecDepth 100000 in
set_option maxHeartbeats 4000000 in
theorem c_X3_isField_ok (l : Launch) (g : zG) (q : Nat → Nat) (th : Int) (a : zS) (la : Nat → Int) (pe : Nat → Nat) (ga : Nat → Int) (sz : Nat → Nat) (ha : zOk a) (j : Nat) (hj : j < zNf a) : zM g l yX3_isField wsX3_isField { frames := 1, cells := 0, slots := 0, locals := 22 } [.ref (q 0), .int (nI j)] (wM g q th a la pe ga sz) (zPi (bI true) (wM g q th a la pe ga sz)) 0 0 := by
  refine zM.of (cc := cX3_isField) (nL := 2) (ret := (some .boolean)) (lv := [(0, .ref (q 0)), (1, .int (nI j))]) (by decide) rfl (Nat.le_of_ble_eq_true rfl) rfl ?_
  intro E C0 hi
  have C : zC g E cX3_isField RX3 wsX3_isField 2 (some .boolean) := C0
  obtain ⟨hnf, hnd, hnb, hou, hrs, hbd⟩ := id ha
  refine z_iload_n C dX3_isField_0 1 rfl ?_
  refine z_iconst C (nI 0) dX3_isField_1 (by decide) ?_
  refine z_aload_n C dX3_isField_2 0 rfl ?_
  refine z_get C inX3_isField_X3 0 wM_o rfl 1 (by decide) (C.w 1 rfl) rfl dX3_isField_3 ?_
  refine z_iconst C (nI 1) dX3_isField_6 (by decide) ?_
  refine z_isub C dX3_isField_7 (v := nI (zNf a - 1)) (pk_sub (by omega)) ?_
  refine z_callS C (c_X3_isIn_ok l g (wM g q th a la pe ga sz) j 0 (zNf a - 1) (by omega) (by omega) (by omega)) (va_cwS 3 C.ts gX3_isField_X3_isIn rfl rfl rfl (by decide +kernel) ⟨Nat.le_of_ble_eq_true rfl, Nat.le_of_ble_eq_true rfl⟩) rfl rfl (Nat.le_of_ble_eq_true rfl) dX3_isField_8 ⟨Nat.zero_le _, Nat.zero_le _⟩ (z_i ?_)
  exact z_zretP C dX3_isField_11 rfl rfl
set_option maxRecDepth 100000 in
set_option maxHeartbeats 4000000 in
theorem c_X3_isField_no (l : Launch) (g : zG) (q : Nat → Nat) (th : Int) (a : zS) (la : Nat → Int) (pe : Nat → Nat) (ga : Nat → Int) (sz : Nat → Nat) (ha : zOk a) (x : Int32) (h : zBad x (zNf a)) : zM g l yX3_isField wsX3_isField { frames := 1, cells := 0, slots := 0, locals := 22 } [.ref (q 0), .int x] (wM g q th a la pe ga sz) (zPi (bI false) (wM g q th a la pe ga sz)) 0 0 := by
  refine zM.of (cc := cX3_isField) (nL := 2) (ret := (some .boolean)) (lv := [(0, .ref (q 0)), (1, .int x)]) (by decide) rfl (Nat.le_of_ble_eq_true rfl) rfl ?_
  intro E C0 hi
  have C : zC g E cX3_isField RX3 wsX3_isField 2 (some .boolean) := C0
  obtain ⟨hnf, hnd, hnb, hou, hrs, hbd⟩ := id ha
  refine z_iload_n C dX3_isField_0 1 rfl ?_
  refine z_iconst C (nI 0) dX3_isField_1 (by decide) ?_
  refine z_aload_n C dX3_isField_2 0 rfl ?_
  refine z_get C inX3_isField_X3 0 wM_o rfl 1 (by decide) (C.w 1 rfl) rfl dX3_isField_3 ?_
  refine z_iconst C (nI 1) dX3_isField_6 (by decide) ?_
  refine z_isub C dX3_isField_7 (v := iZ (((zNf a : Nat) : Int) - 1)) (iZ_sub ((zNf a : Nat) : Int) 1) ?_
  refine z_callS C (c_X3_isIn_no l g (wM g q th a la pe ga sz) (x) (nI 0) (iZ (((zNf a : Nat) : Int) - 1)) (zbad_hi (by omega) h)) (va_cwS 3 C.ts gX3_isField_X3_isIn rfl rfl rfl (by decide +kernel) ⟨Nat.le_of_ble_eq_true rfl, Nat.le_of_ble_eq_true rfl⟩) rfl rfl (Nat.le_of_ble_eq_true rfl) dX3_isField_8 ⟨Nat.zero_le _, Nat.zero_le _⟩ (z_i ?_)
  exact z_zretP C dX3_isField_11 rfl rfl
theorem inX3_isBidder_X3 : ∀ w ∈ wsX30, w ∈ wsX3_isBidder := fun w h => List.mem_cons_of_mem _ (List.mem_append_right _ (h))
set_option maxRecDepth 100000 in
set_option maxHeartbeats 4000000 in
theorem c_X3_isBidder_ok (l : Launch) (g : zG) (q : Nat → Nat) (th : Int) (a : zS) (la : Nat → Int) (pe : Nat → Nat) (ga : Nat → Int) (sz : Nat → Nat) (ha : zOk a) (j : Nat) (hj : j < zNd a) : zM g l yX3_isBidder wsX3_isBidder { frames := 1, cells := 0, slots := 0, locals := 22 } [.ref (q 0), .int (nI j)] (wM g q th a la pe ga sz) (zPi (bI true) (wM g q th a la pe ga sz)) 0 0 := by
  refine zM.of (cc := cX3_isBidder) (nL := 2) (ret := (some .boolean)) (lv := [(0, .ref (q 0)), (1, .int (nI j))]) (by decide) rfl (Nat.le_of_ble_eq_true rfl) rfl ?_
  intro E C0 hi
  have C : zC g E cX3_isBidder RX3 wsX3_isBidder 2 (some .boolean) := C0
  obtain ⟨hnf, hnd, hnb, hou, hrs, hbd⟩ := id ha
  refine z_iload_n C dX3_isBidder_0 1 rfl ?_
  refine z_iconst C (nI 0) dX3_isBidder_1 (by decide) ?_
  refine z_aload_n C dX3_isBidder_2 0 rfl ?_
  refine z_get C inX3_isBidder_X3 0 wM_o rfl 2 (by decide) (C.w 1 rfl) rfl dX3_isBidder_3 ?_
  refine z_iconst C (nI 1) dX3_isBidder_6 (by decide) ?_
  refine z_isub C dX3_isBidder_7 (v := nI (zNd a - 1)) (pk_sub (by omega)) ?_
  refine z_callS C (c_X3_isIn_ok l g (wM g q th a la pe ga sz) j 0 (zNd a - 1) (by omega) (by omega) (by omega)) (va_cwS 3 C.ts gX3_isBidder_X3_isIn rfl rfl rfl (by decide +kernel) ⟨Nat.le_of_ble_eq_true rfl, Nat.le_of_ble_eq_true rfl⟩) rfl rfl (Nat.le_of_ble_eq_true rfl) dX3_isBidder_8 ⟨Nat.zero_le _, Nat.zero_le _⟩ (z_i ?_)
  exact z_zretP C dX3_isBidder_11 rfl rfl
set_option maxRecDepth 100000 in
set_option maxHeartbeats 4000000 in
theorem c_X3_isBidder_no (l : Launch) (g : zG) (q : Nat → Nat) (th : Int) (a : zS) (la : Nat → Int) (pe : Nat → Nat) (ga : Nat → Int) (sz : Nat → Nat) (ha : zOk a) (x : Int32) (h : zBad x (zNd a)) : zM g l yX3_isBidder wsX3_isBidder { frames := 1, cells := 0, slots := 0, locals := 22 } [.ref (q 0), .int x] (wM g q th a la pe ga sz) (zPi (bI false) (wM g q th a la pe ga sz)) 0 0 := by
  refine zM.of (cc := cX3_isBidder) (nL := 2) (ret := (some .boolean)) (lv := [(0, .ref (q 0)), (1, .int x)]) (by decide) rfl (Nat.le_of_ble_eq_true rfl) rfl ?_
  intro E C0 hi
  have C : zC g E cX3_isBidder RX3 wsX3_isBidder 2 (some .boolean) := C0
  obtain ⟨hnf, hnd, hnb, hou, hrs, hbd⟩ := id ha
  refine z_iload_n C dX3_isBidder_0 1 rfl ?_
  refine z_iconst C (nI 0) dX3_isBidder_1 (by decide) ?_
  refine z_aload_n C dX3_isBidder_2 0 rfl ?_
  refine z_get C inX3_isBidder_X3 0 wM_o rfl 2 (by decide) (C.w 1 rfl) rfl dX3_isBidder_3 ?_
  refine z_iconst C (nI 1) dX3_isBidder_6 (by decide) ?_
  refine z_isub C dX3_isBidder_7 (v := iZ (((zNd a : Nat) : Int) - 1)) (iZ_sub ((zNd a : Nat) : Int) 1) ?_
  refine z_callS C (c_X3_isIn_no l g (wM g q th a la pe ga sz) (x) (nI 0) (iZ (((zNd a : Nat) : Int) - 1)) (zbad_hi (by omega) h)) (va_cwS 3 C.ts gX3_isBidder_X3_isIn rfl rfl rfl (by decide +kernel) ⟨Nat.le_of_ble_eq_true rfl, Nat.le_of_ble_eq_true rfl⟩) rfl rfl (Nat.le_of_ble_eq_true rfl) dX3_isBidder_8 ⟨Nat.zero_le _, Nat.zero_le _⟩ (z_i ?_)
  exact z_zretP C dX3_isBidder_11 rfl rfl
theorem inX3_isBid_X3 : ∀ w ∈ wsX30, w ∈ wsX3_isBid := fun w h => List.mem_cons_of_mem _ (List.mem_append_right _ (h))
set_option maxRecDepth 100000 in
set_option maxHeartbeats 4000000 in
theorem c_X3_isBid_ok (l : Launch) (g : zG) (q : Nat → Nat) (th : Int) (a : zS) (la : Nat → Int) (pe : Nat → Nat) (ga : Nat → Int) (sz : Nat → Nat) (ha : zOk a) (j : Nat) (hj : j < zNb a) : zM g l yX3_isBid wsX3_isBid { frames := 1, cells := 0, slots := 0, locals := 22 } [.ref (q 0), .int (nI j)] (wM g q th a la pe ga sz) (zPi (bI true) (wM g q th a la pe ga sz)) 0 0 := by
  refine zM.of (cc := cX3_isBid) (nL := 2) (ret := (some .boolean)) (lv := [(0, .ref (q 0)), (1, .int (nI j))]) (by decide) rfl (Nat.le_of_ble_eq_true rfl) rfl ?_
  intro E C0 hi
  have C : zC g E cX3_isBid RX3 wsX3_isBid 2 (some .boolean) := C0
  obtain ⟨hnf, hnd, hnb, hou, hrs, hbd⟩ := id ha
  refine z_iload_n C dX3_isBid_0 1 rfl ?_
  refine z_iconst C (nI 0) dX3_isBid_1 (by decide) ?_
  refine z_aload_n C dX3_isBid_2 0 rfl ?_
  refine z_get C inX3_isBid_X3 0 wM_o rfl 3 (by decide) (C.w 1 rfl) rfl dX3_isBid_3 ?_
  refine z_iconst C (nI 1) dX3_isBid_6 (by decide) ?_
  refine z_isub C dX3_isBid_7 (v := nI (zNb a - 1)) (pk_sub (by omega)) ?_
  refine z_callS C (c_X3_isIn_ok l g (wM g q th a la pe ga sz) j 0 (zNb a - 1) (by omega) (by omega) (by omega)) (va_cwS 3 C.ts gX3_isBid_X3_isIn rfl rfl rfl (by decide +kernel) ⟨Nat.le_of_ble_eq_true rfl, Nat.le_of_ble_eq_true rfl⟩) rfl rfl (Nat.le_of_ble_eq_true rfl) dX3_isBid_8 ⟨Nat.zero_le _, Nat.zero_le _⟩ (z_i ?_)
  exact z_zretP C dX3_isBid_11 rfl rfl
set_option maxRecDepth 100000 in
set_option maxHeartbeats 4000000 in
theorem c_X3_isBid_no (l : Launch) (g : zG) (q : Nat → Nat) (th : Int) (a : zS) (la : Nat → Int) (pe : Nat → Nat) (ga : Nat → Int) (sz : Nat → Nat) (ha : zOk a) (x : Int32) (h : zBad x (zNb a)) : zM g l yX3_isBid wsX3_isBid { frames := 1, cells := 0, slots := 0, locals := 22 } [.ref (q 0), .int x] (wM g q th a la pe ga sz) (zPi (bI false) (wM g q th a la pe ga sz)) 0 0 := by
  refine zM.of (cc := cX3_isBid) (nL := 2) (ret := (some .boolean)) (lv := [(0, .ref (q 0)), (1, .int x)]) (by decide) rfl (Nat.le_of_ble_eq_true rfl) rfl ?_
  intro E C0 hi
  have C : zC g E cX3_isBid RX3 wsX3_isBid 2 (some .boolean) := C0
  obtain ⟨hnf, hnd, hnb, hou, hrs, hbd⟩ := id ha
  refine z_iload_n C dX3_isBid_0 1 rfl ?_
  refine z_iconst C (nI 0) dX3_isBid_1 (by decide) ?_
  refine z_aload_n C dX3_isBid_2 0 rfl ?_
  refine z_get C inX3_isBid_X3 0 wM_o rfl 3 (by decide) (C.w 1 rfl) rfl dX3_isBid_3 ?_
  refine z_iconst C (nI 1) dX3_isBid_6 (by decide) ?_
  refine z_isub C dX3_isBid_7 (v := iZ (((zNb a : Nat) : Int) - 1)) (iZ_sub ((zNb a : Nat) : Int) 1) ?_
  refine z_callS C (c_X3_isIn_no l g (wM g q th a la pe ga sz) (x) (nI 0) (iZ (((zNb a : Nat) : Int) - 1)) (zbad_hi (by omega) h)) (va_cwS 3 C.ts gX3_isBid_X3_isIn rfl rfl rfl (by decide +kernel) ⟨Nat.le_of_ble_eq_true rfl, Nat.le_of_ble_eq_true rfl⟩) rfl rfl (Nat.le_of_ble_eq_true rfl) dX3_isBid_8 ⟨Nat.zero_le _, Nat.zero_le _⟩ (z_i ?_)
  exact z_zretP C dX3_isBid_11 rfl rfl
theorem inX3_fail_X3 : ∀ w ∈ wsX30, w ∈ wsX3_fail := fun w h => List.mem_cons_of_mem _ (List.mem_append_right _ (h))
set_option maxRecDepth 100000 in
set_option maxHeartbeats 4000000 in
theorem c_X3_fail (l : Launch) (g : zG) (q : Nat → Nat) (th : Int) (a : zS) (la : Nat → Int) (pe : Nat → Nat) (ga : Nat → Int) (sz : Nat → Nat) (k : Nat) : zM g l yX3_fail wsX3_fail { frames := 0, cells := 0, slots := 0, locals := 0 } [.ref (q 0), .int (nI k)] (wM g q th a la pe ga sz) (zPi (nI 0) (wM g q (k : Int) a la pe ga sz)) 0 0 := by
  refine zM.of (cc := cX3_fail) (nL := 2) (ret := (some .int)) (lv := [(0, .ref (q 0)), (1, .int (nI k))]) (by decide) rfl (Nat.le_of_ble_eq_true rfl) rfl ?_
  intro E C0 hi
  have C : zC g E cX3_fail RX3 wsX3_fail 2 (some .int) := C0
  refine z_aload_n C dX3_fail_0 0 rfl ?_
  refine z_iload_n C dX3_fail_1 1 rfl ?_
  refine z_put C inX3_fail_X3 tyX3_ok nmX3 0 wM_o rfl 0 (by decide) (C.w 1 rfl) rfl (tyX3_ok 0 (by decide)) rfl rfl (Nat.le_of_ble_eq_true rfl) dX3_fail_2 (wM_set_th (k : Int)) ?_
  refine z_iconst C (nI 0) dX3_fail_5 (by decide) ?_
  exact z_iretP C dX3_fail_6 rfl rfl
theorem inX3_thrown_X3 : ∀ w ∈ wsX30, w ∈ wsX3_thrown := fun w h => List.mem_cons_of_mem _ (List.mem_append_right _ (h))
set_option maxRecDepth 100000 in
set_option maxHeartbeats 4000000 in
theorem c_X3_thrown (l : Launch) (g : zG) (q : Nat → Nat) (th : Int) (a : zS) (la : Nat → Int) (pe : Nat → Nat) (ga : Nat → Int) (sz : Nat → Nat)  : zM g l yX3_thrown wsX3_thrown { frames := 0, cells := 0, slots := 0, locals := 0 } [.ref (q 0)] (wM g q th a la pe ga sz) (zPi (iZ th) (wM g q th a la pe ga sz)) 0 0 := by
  refine zM.of (cc := cX3_thrown) (nL := 1) (ret := (some .int)) (lv := [(0, .ref (q 0))]) (by decide) rfl (Nat.le_of_ble_eq_true rfl) rfl ?_
  intro E C0 hi
  have C : zC g E cX3_thrown RX3 wsX3_thrown 1 (some .int) := C0
  refine z_aload_n C dX3_thrown_0 0 rfl ?_
  refine z_get C inX3_thrown_X3 0 wM_o rfl 0 (by decide) (C.w 1 rfl) rfl dX3_thrown_1 ?_
  exact z_iretP C dX3_thrown_4 rfl rfl
