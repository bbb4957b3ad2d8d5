theorem zCnt_s (p : Nat → Bool) (n : Nat) : zCnt p (n + 1) = zCnt p n + (if p n = true then 1 else 0) := rfl
set_option maxRecDepth 100000 in
set_option maxHeartbeats 4000000 in
theorem c_X3_bidTold (l : Launch) (g : zG) (q : Nat → Nat) (th : Int) (a : zS) (la : Nat → Int) (pe : Nat → Nat) (ga : Nat → Int) (sz : Nat → Nat) (ha : zOk a) (h0 : zM0 la pe) (b w : Nat) (hb : b < zNb a) (hw : w ≤ 7) : zM g l yX3_bidTold wsX3_bidTold { frames := 5, cells := 0, slots := 0, locals := 113 } [.ref (q 0), .int (nI b), .int (nI w)] (wM g q th a la pe ga sz) (zPie (iZ (aTold a b w)) (zMw g q th a)) 0 0 := by
  refine zM.of (cc := cX3_bidTold) (nL := 3) (ret := (some .int)) (lv := [(0, .ref (q 0)), (1, .int (nI b)), (2, .int (nI w))]) (by decide) rfl (Nat.le_of_ble_eq_true rfl) rfl ?_
  intro E C0 hi
  have C : zC g E cX3_bidTold RX3 wsX3_bidTold 3 (some .int) := C0
  obtain ⟨hnf, hnd, hnb, hou, hrs, hbd⟩ := id ha
  have hb12 := mBest_4096 ha
  refine z_iload_n C dX3_bidTold_0 2 rfl ?_
  rcases (show w = 0 ∨ w = 1 ∨ w = 2 ∨ w = 3 ∨ w = 4 ∨ w = 5 ∨ w = 6 ∨ w = 7 by omega) with rfl | rfl | rfl | rfl | rfl | rfl | rfl | rfl
  · skip
    refine z_tabOut C 57 dX3_bidTold_1 (by decide) (by decide) ?_
    refine z_aload_n C dX3_bidTold_57 0 rfl ?_
    refine z_iload_n C dX3_bidTold_58 1 rfl ?_
    refine z_iload_n C dX3_bidTold_59 2 rfl ?_
    refine z_callV C (c_X3_bi_0 l g q th a la pe ga sz b (by omega)) (cwV 2 C.ts gX3_bidTold_X3_bi rfl rfl rfl (by decide +kernel) ⟨Nat.le_of_ble_eq_true rfl, Nat.le_of_ble_eq_true rfl⟩) wM_o rfl rfl rfl (Nat.le_of_ble_eq_true rfl) dX3_bidTold_60 ⟨Nat.zero_le _, Nat.zero_le _⟩ (z_i ?_)
    have f_60 := ha.ow (b := b) (by omega)
    exact z_iretE C dX3_bidTold_63 rfl ⟨_, _, _, _, rfl, h0⟩
  · skip
    refine z_tabOut C 57 dX3_bidTold_1 (by decide) (by decide) ?_
    refine z_aload_n C dX3_bidTold_57 0 rfl ?_
    refine z_iload_n C dX3_bidTold_58 1 rfl ?_
    refine z_iload_n C dX3_bidTold_59 2 rfl ?_
    refine z_callV C (c_X3_bi_1 l g q th a la pe ga sz b (by omega)) (cwV 2 C.ts gX3_bidTold_X3_bi rfl rfl rfl (by decide +kernel) ⟨Nat.le_of_ble_eq_true rfl, Nat.le_of_ble_eq_true rfl⟩) wM_o rfl rfl rfl (Nat.le_of_ble_eq_true rfl) dX3_bidTold_60 ⟨Nat.zero_le _, Nat.zero_le _⟩ (z_i ?_)
    have f_60 := ha.bu8 (b := b) (by omega)
    exact z_iretE C dX3_bidTold_63 rfl ⟨_, _, _, _, rfl, h0⟩
  · skip
    refine z_tabOut C 57 dX3_bidTold_1 (by decide) (by decide) ?_
    refine z_aload_n C dX3_bidTold_57 0 rfl ?_
    refine z_iload_n C dX3_bidTold_58 1 rfl ?_
    refine z_iload_n C dX3_bidTold_59 2 rfl ?_
    refine z_callV C (c_X3_bi_2 l g q th a la pe ga sz b (by omega)) (cwV 2 C.ts gX3_bidTold_X3_bi rfl rfl rfl (by decide +kernel) ⟨Nat.le_of_ble_eq_true rfl, Nat.le_of_ble_eq_true rfl⟩) wM_o rfl rfl rfl (Nat.le_of_ble_eq_true rfl) dX3_bidTold_60 ⟨Nat.zero_le _, Nat.zero_le _⟩ (z_i ?_)
    have f_60 := ha.pr (b := b) (by omega)
    exact z_iretE C dX3_bidTold_63 rfl ⟨_, _, _, _, rfl, h0⟩
  · skip
    refine z_tabOut C 57 dX3_bidTold_1 (by decide) (by decide) ?_
    refine z_aload_n C dX3_bidTold_57 0 rfl ?_
    refine z_iload_n C dX3_bidTold_58 1 rfl ?_
    refine z_iload_n C dX3_bidTold_59 2 rfl ?_
    refine z_callV C (c_X3_bi_3 l g q th a la pe ga sz b (by omega)) (cwV 2 C.ts gX3_bidTold_X3_bi rfl rfl rfl (by decide +kernel) ⟨Nat.le_of_ble_eq_true rfl, Nat.le_of_ble_eq_true rfl⟩) wM_o rfl rfl rfl (Nat.le_of_ble_eq_true rfl) dX3_bidTold_60 ⟨Nat.zero_le _, Nat.zero_le _⟩ (z_i ?_)
    have f_60 := ha.wo (b := b) (by omega)
    exact z_iretE C dX3_bidTold_63 rfl ⟨_, _, _, _, rfl, h0⟩
  · skip
    refine z_tabOut C 57 dX3_bidTold_1 (by decide) (by decide) ?_
    refine z_aload_n C dX3_bidTold_57 0 rfl ?_
    refine z_iload_n C dX3_bidTold_58 1 rfl ?_
    refine z_iload_n C dX3_bidTold_59 2 rfl ?_
    refine z_callV C (c_X3_bi_4 l g q th a la pe ga sz b (by omega)) (cwV 2 C.ts gX3_bidTold_X3_bi rfl rfl rfl (by decide +kernel) ⟨Nat.le_of_ble_eq_true rfl, Nat.le_of_ble_eq_true rfl⟩) wM_o rfl rfl rfl (Nat.le_of_ble_eq_true rfl) dX3_bidTold_60 ⟨Nat.zero_le _, Nat.zero_le _⟩ (z_i ?_)
    have f_60 := ha.go (b := b) (by omega)
    exact z_iretE C dX3_bidTold_63 rfl ⟨_, _, _, _, rfl, h0⟩
  · skip
    refine z_tabIn C 28 dX3_bidTold_1 (by decide) (by decide) (off := 27) (by decide) (by decide) ?_
    refine z_aload_n C dX3_bidTold_28 0 rfl ?_
    refine z_iload_n C dX3_bidTold_29 1 rfl ?_
    refine z_callV C (c_X3_gain l g q th a la pe ga sz ha b (by omega)) (cwV 1 C.ts gX3_bidTold_X3_gain rfl rfl rfl (by decide +kernel) ⟨Nat.le_of_ble_eq_true rfl, Nat.le_of_ble_eq_true rfl⟩) wM_o rfl rfl rfl (Nat.le_of_ble_eq_true rfl) dX3_bidTold_30 ⟨Nat.zero_le _, Nat.zero_le _⟩ (z_i ?_)
    have f_30 := zGn_bnd ha (b := b) (by omega)
    exact z_iretE C dX3_bidTold_33 rfl ⟨_, _, _, _, rfl, h0⟩
  · skip
    refine z_tabIn C 34 dX3_bidTold_1 (by decide) (by decide) (off := 33) (by decide) (by decide) ?_
    refine z_aload_n C dX3_bidTold_34 0 rfl ?_
    refine z_iload_n C dX3_bidTold_35 1 rfl ?_
    refine z_callV C (c_X3_isCounted l g q th a la pe ga sz ha b (by omega)) (cwV 1 C.ts gX3_bidTold_X3_isCounted rfl rfl rfl (by decide +kernel) ⟨Nat.le_of_ble_eq_true rfl, Nat.le_of_ble_eq_true rfl⟩) wM_o rfl rfl rfl (Nat.le_of_ble_eq_true rfl) dX3_bidTold_36 ⟨Nat.zero_le _, Nat.zero_le _⟩ (z_i ?_)
    refine z_if_eq C 46 dX3_bidTold_39 (by decide) (zeq_B0 _) (fun c_39 => ?_) (fun c_39 => ?_)
    · skip
      refine z_iconst C (nI 0) dX3_bidTold_46 (by decide) ?_
      exact z_iretE C dX3_bidTold_47 (by show _ = iZ (if zCn a (zOu a) b = true then 1 else 0); simp_all; rfl) ⟨_, _, _, _, rfl, h0⟩
    · skip
      refine z_iconst C (nI 1) dX3_bidTold_42 (by decide) ?_
      refine z_goto C 47 dX3_bidTold_43 (by decide) ?_
      exact z_iretE C dX3_bidTold_47 (by show _ = iZ (if zCn a (zOu a) b = true then 1 else 0); simp_all; rfl) ⟨_, _, _, _, rfl, h0⟩
  · skip
    refine z_tabIn C 48 dX3_bidTold_1 (by decide) (by decide) (off := 47) (by decide) (by decide) ?_
    refine z_aload_n C dX3_bidTold_48 0 rfl ?_
    refine z_callV C (c_X3_sale l g q th a la pe ga sz ha h0) (cwV 0 C.ts gX3_bidTold_X3_sale rfl rfl rfl (by decide +kernel) ⟨Nat.le_of_ble_eq_true rfl, Nat.le_of_ble_eq_true rfl⟩) wM_o rfl rfl rfl (Nat.le_of_ble_eq_true rfl) dX3_bidTold_49 ⟨Nat.zero_le _, Nat.zero_le _⟩ (z_ie ?_)
    rintro _ ⟨la49, pe49, ga49, sz49, rfl, hz49, hG49⟩
    refine z_iload_n C dX3_bidTold_52 1 rfl ?_
    refine z_callS C (c_X3_bit l g (wM g q th a la49 pe49 ga49 sz49) (mBest a) b (by omega) (by omega)) (va_cwS 2 C.ts gX3_bidTold_X3_bit rfl rfl rfl (by decide +kernel) ⟨Nat.le_of_ble_eq_true rfl, Nat.le_of_ble_eq_true rfl⟩) rfl rfl (Nat.le_of_ble_eq_true rfl) dX3_bidTold_53 ⟨Nat.zero_le _, Nat.zero_le _⟩ (z_i ?_)
    exact z_iretE C dX3_bidTold_56 (by show _ = iZ (if (zFw a 0).2.testBit b = true then 1 else 0); rw [zFw_0 ha]; exact bI_Z _) ⟨_, _, _, _, rfl, hz49⟩
theorem inX3_bidderTold_X3 : ∀ w ∈ wsX30, w ∈ wsX3_bidderTold := fun w h => List.mem_cons_of_mem _ (List.mem_append_right _ (h))
set_option maxRecDepth 100000 in
set_option maxHeartbeats 4000000 in
theorem c_X3_bidderTold (l : Launch) (g : zG) (q : Nat → Nat) (th : Int) (a : zS) (la : Nat → Int) (pe : Nat → Nat) (ga : Nat → Int) (sz : Nat → Nat) (ha : zOk a) (h0 : zM0 la pe) (d w : Nat) (hd : d < zNd a) (hw : w ≤ 5) : zM g l yX3_bidderTold wsX3_bidderTold { frames := 8, cells := 0, slots := 0, locals := 182 } [.ref (q 0), .int (nI d), .int (nI w)] (wM g q th a la pe ga sz) (zPie (iZ (aAbout a d w)) (zMw g q th a)) 0 0 := by
  refine zM.of (cc := cX3_bidderTold) (nL := 5) (ret := (some .int)) (lv := [(0, .ref (q 0)), (1, .int (nI d)), (2, .int (nI w))]) (by decide) rfl (Nat.le_of_ble_eq_true rfl) rfl ?_
  intro E C0 hi
  have C : zC g E cX3_bidderTold RX3 wsX3_bidderTold 5 (some .int) := C0
  obtain ⟨hnf, hnd, hnb, hou, hrs, hbd⟩ := id ha
  have hb12 := mBest_4096 ha
  have ho32 : 2 ^ zNd a ≤ 2 ^ 5 := zp2_le hnd
  refine z_iload_n C dX3_bidderTold_0 2 rfl ?_
  rcases (show w = 0 ∨ w = 1 ∨ w = 2 ∨ w = 3 ∨ w = 4 ∨ w = 5 by omega) with rfl | rfl | rfl | rfl | rfl | rfl
  · skip
    refine z_tabIn C 36 dX3_bidderTold_1 (by decide) (by decide) (off := 35) (by decide) (by decide) ?_
    refine z_iconst C (nI 1) dX3_bidderTold_36 (by decide) ?_
    refine z_aload_n C dX3_bidderTold_37 0 rfl ?_
    refine z_get C inX3_bidderTold_X3 0 wM_o rfl 4 (by decide) (C.w 1 rfl) rfl dX3_bidderTold_38 ?_
    refine z_iload_n C dX3_bidderTold_41 1 rfl ?_
    refine z_callS C (c_X3_bit l g (wM g q th a la pe ga sz) (zOu a) d (by omega) (by omega)) (va_cwS 2 C.ts gX3_bidderTold_X3_bit rfl rfl rfl (by decide +kernel) ⟨Nat.le_of_ble_eq_true rfl, Nat.le_of_ble_eq_true rfl⟩) rfl rfl (Nat.le_of_ble_eq_true rfl) dX3_bidderTold_42 ⟨Nat.zero_le _, Nat.zero_le _⟩ (z_i ?_)
    refine z_isub C dX3_bidderTold_45 (v := ((nI 1) - (bI ((zOu a).testBit d)))) rfl ?_
    exact z_iretE C dX3_bidderTold_46 (by show _ = iZ (if zIn a d = true then 1 else 0); have hzi : zIn a d = !(zOu a).testBit d := (by unfold zIn; simp [hd]); rw [hzi]; cases (zOu a).testBit d <;> rfl) ⟨_, _, _, _, rfl, h0⟩
  · skip
    refine z_tabIn C 47 dX3_bidderTold_1 (by decide) (by decide) (off := 46) (by decide) (by decide) ?_
    refine z_iconst C (nI 0) dX3_bidderTold_47 (by decide) ?_
    refine z_istore_n C dX3_bidderTold_48 (by decide) [(3, .int (nI 0)), (0, .ref (q 0)), (1, .int (nI d)), (2, .int (nI 1))] rfl ?_
    refine z_iconst C (nI 0) dX3_bidderTold_49 (by decide) ?_
    refine z_istore C dX3_bidderTold_50 (by decide) [(4, .int (nI 0)), (3, .int (nI 0)), (0, .ref (q 0)), (1, .int (nI d)), (2, .int (nI 1))] rfl ?_
    refine zW.pick (lv' := [(0, .ref (q 0)), (1, .int (nI d)), (2, .int (nI 1)), (3, .int (nI 0)), (4, .int (nI 0))]) [2, 3, 4, 1, 0] rfl ?_
    have hlp52 : ∀ (k i : Nat), i + k = zNb a → zW g l ({ frames := 8, cells := 0, slots := 0, locals := 182 }) E (zMQ g E (zPie (iZ (aAbout a d 1)) (zMw g q th a)) 0 0) 5 0 0 (wM g q th a la pe ga sz) [(0, .ref (q 0)), (1, .int (nI d)), (2, .int (nI 1)), (3, .int (nI (zCnt (fun b => decide (zOw a b = d) && zGo a b == 0) i))), (4, .int (nI i))] [] 52 := by
      intro k
      induction k with
      | zero =>
        intro i hik
        refine z_iload C dX3_bidderTold_52 4 rfl ?_
        refine z_aload_n C dX3_bidderTold_54 0 rfl ?_
        refine z_get C inX3_bidderTold_X3 0 wM_o rfl 3 (by decide) (C.w 2 rfl) rfl dX3_bidderTold_55 ?_
        refine z_icmp_ge C 94 dX3_bidderTold_58 (by decide) (zle_NN (by omega) (by omega)) (fun c_58 => ?_) (fun h9 => absurd (by omega) h9)
        refine z_iload_n C dX3_bidderTold_94 3 rfl ?_
        exact z_iretE C dX3_bidderTold_95 (by rw [show i = zNb a by omega]; rfl) ⟨_, _, _, _, rfl, h0⟩
      | succ k ih52 =>
        intro i hik
        refine z_iload C dX3_bidderTold_52 4 rfl ?_
        refine z_aload_n C dX3_bidderTold_54 0 rfl ?_
        refine z_get C inX3_bidderTold_X3 0 wM_o rfl 3 (by decide) (C.w 2 rfl) rfl dX3_bidderTold_55 ?_
        refine z_icmp_ge C 94 dX3_bidderTold_58 (by decide) (zle_NN (by omega) (by omega)) (fun h9 => absurd h9 (by omega)) (fun c_58 => ?_)
        refine z_iload_n C dX3_bidderTold_61 3 rfl ?_
        refine z_aload_n C dX3_bidderTold_62 0 rfl ?_
        refine z_iload C dX3_bidderTold_63 4 rfl ?_
        refine z_iconst C (nI 0) dX3_bidderTold_65 (by decide) ?_
        refine z_callV C (c_X3_bi_0 l g q th a la pe ga sz i (by omega)) (cwV 2 C.ts gX3_bidderTold_X3_bi rfl rfl rfl (by decide +kernel) ⟨Nat.le_of_ble_eq_true rfl, Nat.le_of_ble_eq_true rfl⟩) wM_o rfl rfl rfl (Nat.le_of_ble_eq_true rfl) dX3_bidderTold_66 ⟨Nat.zero_le _, Nat.zero_le _⟩ (z_i ?_)
        have f_66 := ha.ow (b := i) (by omega)
        refine z_iload_n C dX3_bidderTold_69 1 rfl ?_
        refine z_icmp_ne C 85 dX3_bidderTold_70 (by decide) (zeq_NN (by omega) (by omega)) (fun c_70 => ?_) (fun c_70 => ?_)
        · skip
          refine z_iconst C (nI 0) dX3_bidderTold_85 (by decide) ?_
          refine z_iadd C dX3_bidderTold_86 (v := nI (zCnt (fun b => decide (zOw a b = d) && zGo a b == 0) (i + 1))) (by rw [nI_add]; congr 1; rw [zCnt_s]; simp_all) ?_
          refine z_istore_n C dX3_bidderTold_87 (by decide) [(3, .int (nI (zCnt (fun b => decide (zOw a b = d) && zGo a b == 0) (i + 1)))), (0, .ref (q 0)), (1, .int (nI d)), (2, .int (nI 1)), (4, .int (nI i))] rfl ?_
          refine z_iinc C dX3_bidderTold_88 4 (nI (i + 1)) rfl (nI_add i 1) (by decide) [(4, .int (nI (i + 1))), (3, .int (nI (zCnt (fun b => decide (zOw a b = d) && zGo a b == 0) (i + 1)))), (0, .ref (q 0)), (1, .int (nI d)), (2, .int (nI 1))] rfl ?_
          refine z_goto C 52 dX3_bidderTold_91 (by decide) ?_
          refine zW.pick (lv' := [(0, .ref (q 0)), (1, .int (nI d)), (2, .int (nI 1)), (3, .int (nI (zCnt (fun b => decide (zOw a b = d) && zGo a b == 0) (i + 1)))), (4, .int (nI (i + 1)))]) [2, 3, 4, 1, 0] rfl ?_
          exact ih52 (i + 1) (by omega)
        · skip
          refine z_iconst C (nI 1) dX3_bidderTold_73 (by decide) ?_
          refine z_aload_n C dX3_bidderTold_74 0 rfl ?_
          refine z_iload C dX3_bidderTold_75 4 rfl ?_
          refine z_iconst C (nI 4) dX3_bidderTold_77 (by decide) ?_
          refine z_callV C (c_X3_bi_4 l g q th a la pe ga sz i (by omega)) (cwV 2 C.ts gX3_bidderTold_X3_bi rfl rfl rfl (by decide +kernel) ⟨Nat.le_of_ble_eq_true rfl, Nat.le_of_ble_eq_true rfl⟩) wM_o rfl rfl rfl (Nat.le_of_ble_eq_true rfl) dX3_bidderTold_78 ⟨Nat.zero_le _, Nat.zero_le _⟩ (z_i ?_)
          have f_78 := ha.go (b := i) (by omega)
          refine z_isub C dX3_bidderTold_81 (v := nI (1 - zGo a i)) (pk_sub (by omega)) ?_
          refine z_goto C 86 dX3_bidderTold_82 (by decide) ?_
          refine z_iadd C dX3_bidderTold_86 (v := nI (zCnt (fun b => decide (zOw a b = d) && zGo a b == 0) (i + 1))) (by rw [nI_add]; congr 1; rw [zCnt_s]; rcases (show zGo a i = 0 ∨ zGo a i = 1 by omega) with e | e <;> simp_all) ?_
          refine z_istore_n C dX3_bidderTold_87 (by decide) [(3, .int (nI (zCnt (fun b => decide (zOw a b = d) && zGo a b == 0) (i + 1)))), (0, .ref (q 0)), (1, .int (nI d)), (2, .int (nI 1)), (4, .int (nI i))] rfl ?_
          refine z_iinc C dX3_bidderTold_88 4 (nI (i + 1)) rfl (nI_add i 1) (by decide) [(4, .int (nI (i + 1))), (3, .int (nI (zCnt (fun b => decide (zOw a b = d) && zGo a b == 0) (i + 1)))), (0, .ref (q 0)), (1, .int (nI d)), (2, .int (nI 1))] rfl ?_
          refine z_goto C 52 dX3_bidderTold_91 (by decide) ?_
          refine zW.pick (lv' := [(0, .ref (q 0)), (1, .int (nI d)), (2, .int (nI 1)), (3, .int (nI (zCnt (fun b => decide (zOw a b = d) && zGo a b == 0) (i + 1)))), (4, .int (nI (i + 1)))]) [2, 3, 4, 1, 0] rfl ?_
          exact ih52 (i + 1) (by omega)
    exact hlp52 (zNb a) 0 (by omega)
  · skip
    refine z_tabIn C 96 dX3_bidderTold_1 (by decide) (by decide) (off := 95) (by decide) (by decide) ?_
    refine z_aload_n C dX3_bidderTold_96 0 rfl ?_
    refine z_aload_n C dX3_bidderTold_97 0 rfl ?_
    refine z_callV C (c_X3_sale l g q th a la pe ga sz ha h0) (cwV 0 C.ts gX3_bidderTold_X3_sale rfl rfl rfl (by decide +kernel) ⟨Nat.le_of_ble_eq_true rfl, Nat.le_of_ble_eq_true rfl⟩) wM_o rfl rfl rfl (Nat.le_of_ble_eq_true rfl) dX3_bidderTold_98 ⟨Nat.zero_le _, Nat.zero_le _⟩ (z_ie ?_)
    rintro _ ⟨la98, pe98, ga98, sz98, rfl, hz98, hG98⟩
    refine z_iload_n C dX3_bidderTold_101 1 rfl ?_
    refine z_callV C (c_X3_bidOf l g q th a la98 pe98 ga98 sz98 ha (mBest a) d (by omega) (by omega)) (cwV 2 C.ts gX3_bidderTold_X3_bidOf rfl rfl rfl (by decide +kernel) ⟨Nat.le_of_ble_eq_true rfl, Nat.le_of_ble_eq_true rfl⟩) wM_o rfl rfl rfl (Nat.le_of_ble_eq_true rfl) dX3_bidderTold_102 ⟨Nat.zero_le _, Nat.zero_le _⟩ (z_i ?_)
    exact z_iretE C dX3_bidderTold_105 (congrArg iZ (mBo_win ha d)) ⟨_, _, _, _, rfl, hz98⟩
  · skip
    refine z_tabIn C 106 dX3_bidderTold_1 (by decide) (by decide) (off := 105) (by decide) (by decide) ?_
    refine z_aload_n C dX3_bidderTold_106 0 rfl ?_
    refine z_iload_n C dX3_bidderTold_107 1 rfl ?_
    refine z_callV C (c_X3_paid l g q th a la pe ga sz ha h0 d (by omega)) (cwV 1 C.ts gX3_bidderTold_X3_paid rfl rfl rfl (by decide +kernel) ⟨Nat.le_of_ble_eq_true rfl, Nat.le_of_ble_eq_true rfl⟩) wM_o rfl rfl rfl (Nat.le_of_ble_eq_true rfl) dX3_bidderTold_108 ⟨Nat.zero_le _, Nat.zero_le _⟩ (z_ie ?_)
    rintro _ ⟨la108, pe108, ga108, sz108, rfl, hz108⟩
    exact z_iretE C dX3_bidderTold_111 rfl ⟨_, _, _, _, rfl, hz108⟩
  · skip
    refine z_tabIn C 112 dX3_bidderTold_1 (by decide) (by decide) (off := 111) (by decide) (by decide) ?_
    refine z_aload_n C dX3_bidderTold_112 0 rfl ?_
    refine z_iload_n C dX3_bidderTold_113 1 rfl ?_
    refine z_callV C (c_X3_profit l g q th a la pe ga sz ha h0 d (by omega)) (cwV 1 C.ts gX3_bidderTold_X3_profit rfl rfl rfl (by decide +kernel) ⟨Nat.le_of_ble_eq_true rfl, Nat.le_of_ble_eq_true rfl⟩) wM_o rfl rfl rfl (Nat.le_of_ble_eq_true rfl) dX3_bidderTold_114 ⟨Nat.zero_le _, Nat.zero_le _⟩ (z_ie ?_)
    rintro _ ⟨la114, pe114, ga114, sz114, rfl, hz114⟩
    exact z_iretE C dX3_bidderTold_117 rfl ⟨_, _, _, _, rfl, hz114⟩
  · skip
    refine z_tabOut C 118 dX3_bidderTold_1 (by decide) (by decide) ?_
    refine z_aload_n C dX3_bidderTold_118 0 rfl ?_
    refine z_iload_n C dX3_bidderTold_119 1 rfl ?_
    refine z_callV C (c_X3_sumWithout l g q th a la pe ga sz ha h0 d (by omega)) (cwV 1 C.ts gX3_bidderTold_X3_sumWithout rfl rfl rfl (by decide +kernel) ⟨Nat.le_of_ble_eq_true rfl, Nat.le_of_ble_eq_true rfl⟩) wM_o rfl rfl rfl (Nat.le_of_ble_eq_true rfl) dX3_bidderTold_120 ⟨Nat.zero_le _, Nat.zero_le _⟩ (z_ie ?_)
    rintro _ ⟨la120, pe120, ga120, sz120, rfl, hz120⟩
    exact z_iretE C dX3_bidderTold_123 (congrArg iZ (mWo_eq ha hd).symm) ⟨_, _, _, _, rfl, hz120⟩
theorem inX3_fieldTold_X3 : ∀ w ∈ wsX30, w ∈ wsX3_fieldTold := fun w h => List.mem_cons_of_mem _ (List.mem_append_right _ (h))
set_option maxRecDepth 100000 in
set_option maxHeartbeats 4000000 in
theorem c_X3_fieldTold_0 (l : Launch) (g : zG) (q : Nat → Nat) (th : Int) (a : zS) (la : Nat → Int) (pe : Nat → Nat) (ga : Nat → Int) (sz : Nat → Nat) (ha : zOk a) (h0 : zM0 la pe) (f : Nat) (hf : f < zNf a) : zM g l yX3_fieldTold wsX3_fieldTold { frames := 5, cells := 0, slots := 0, locals := 113 } [.ref (q 0), .int (nI f), .int (nI 0)] (wM g q th a la pe ga sz) (zPie (iZ (aLand a f 0)) (zMw g q th a)) 0 0 := by
  refine zM.of (cc := cX3_fieldTold) (nL := 6) (ret := (some .int)) (lv := [(0, .ref (q 0)), (1, .int (nI f)), (2, .int (nI 0))]) (by decide) rfl (Nat.le_of_ble_eq_true rfl) rfl ?_
  intro E C0 hi
  have C : zC g E cX3_fieldTold RX3 wsX3_fieldTold 6 (some .int) := C0
  obtain ⟨hnf, hnd, hnb, hou, hrs, hbd⟩ := id ha
  refine z_iload_n C dX3_fieldTold_0 2 rfl ?_
  refine z_if_ne C 11 dX3_fieldTold_1 (by decide) (zeq_N0 (by omega)) (fun h9 => absurd (by decide) h9) (fun c_1 => ?_)
  refine z_aload_n C dX3_fieldTold_4 0 rfl ?_
  refine z_get C inX3_fieldTold_X3 0 wM_o rfl 5 (by decide) (C.w 1 rfl) rfl dX3_fieldTold_5 ?_
  refine z_iload_n C dX3_fieldTold_8 1 rfl ?_
  refine z_ialdN C 1 wM_rs (by omega) (by decide) dX3_fieldTold_9 (v := nI (zRs a f)) rfl ?_
  have f_9b := (ha.rs (f := f) (by omega))
  exact z_iretE C dX3_fieldTold_10 rfl ⟨_, _, _, _, rfl, h0⟩
set_option maxRecDepth 100000 in
set_option maxHeartbeats 4000000 in
theorem c_X3_fieldTold_1 (l : Launch) (g : zG) (q : Nat → Nat) (th : Int) (a : zS) (la : Nat → Int) (pe : Nat → Nat) (ga : Nat → Int) (sz : Nat → Nat) (ha : zOk a) (h0 : zM0 la pe) (f : Nat) (hf : f < zNf a) : zM g l yX3_fieldTold wsX3_fieldTold { frames := 5, cells := 0, slots := 0, locals := 113 } [.ref (q 0), .int (nI f), .int (nI 1)] (wM g q th a la pe ga sz) (zPie (iZ (aLand a f 1)) (zMw g q th a)) 0 0 := by
  refine zM.of (cc := cX3_fieldTold) (nL := 6) (ret := (some .int)) (lv := [(0, .ref (q 0)), (1, .int (nI f)), (2, .int (nI 1))]) (by decide) rfl (Nat.le_of_ble_eq_true rfl) rfl ?_
  intro E C0 hi
  have C : zC g E cX3_fieldTold RX3 wsX3_fieldTold 6 (some .int) := C0
  obtain ⟨hnf, hnd, hnb, hou, hrs, hbd⟩ := id ha
  have hb12 := mBest_4096 ha
  refine z_iload_n C dX3_fieldTold_0 2 rfl ?_
  refine z_if_ne C 11 dX3_fieldTold_1 (by decide) (zeq_N0 (by omega)) (fun c_1 => ?_) (fun h9 => absurd h9 (by decide))
  refine z_aload_n C dX3_fieldTold_11 0 rfl ?_
  refine z_callV C (c_X3_sale l g q th a la pe ga sz ha h0) (cwV 0 C.ts gX3_fieldTold_X3_sale rfl rfl rfl (by decide +kernel) ⟨Nat.le_of_ble_eq_true rfl, Nat.le_of_ble_eq_true rfl⟩) wM_o rfl rfl rfl (Nat.le_of_ble_eq_true rfl) dX3_fieldTold_12 ⟨Nat.zero_le _, Nat.zero_le _⟩ (z_ie ?_)
  rintro _ ⟨la12, pe12, ga12, sz12, rfl, hz12, hG12⟩
  refine z_istore_n C dX3_fieldTold_15 (by decide) [(3, .int (nI (mBest a))), (0, .ref (q 0)), (1, .int (nI f)), (2, .int (nI 1))] rfl ?_
  refine z_iconst C (nI 0) dX3_fieldTold_16 (by decide) ?_
  refine z_istore C dX3_fieldTold_17 (by decide) [(4, .int (nI 0)), (3, .int (nI (mBest a))), (0, .ref (q 0)), (1, .int (nI f)), (2, .int (nI 1))] rfl ?_
  refine z_iconst C (nI 0) dX3_fieldTold_19 (by decide) ?_
  refine z_istore C dX3_fieldTold_20 (by decide) [(5, .int (nI 0)), (4, .int (nI 0)), (3, .int (nI (mBest a))), (0, .ref (q 0)), (1, .int (nI f)), (2, .int (nI 1))] rfl ?_
  refine zW.pick (lv' := [(0, .ref (q 0)), (1, .int (nI f)), (2, .int (nI 1)), (3, .int (nI (mBest a))), (4, .int (nI 0)), (5, .int (nI 0))]) [3, 4, 5, 2, 1, 0] rfl ?_
  have hlp22 : ∀ (k i : Nat) (m : Nat), i + k = zNb a → (zFst (fun b => (mBest a).testBit b && (zBu a b).testBit f) i k = zFst (fun b => (mBest a).testBit b && (zBu a b).testBit f) 0 (zNb a)) → zW g l ({ frames := 5, cells := 0, slots := 0, locals := 113 }) E (zMQ g E (zPie (iZ (aLand a f 1)) (zMw g q th a)) 0 0) 6 0 0 (wM g q th a la12 pe12 ga12 sz12) [(0, .ref (q 0)), (1, .int (nI f)), (2, .int (nI 1)), (3, .int (nI (mBest a))), (4, .int (nI m)), (5, .int (nI i))] [] 22 := by
    intro k
    induction k with
    | zero =>
      intro i m hik hr
      refine z_iload C dX3_fieldTold_22 5 rfl ?_
      refine z_aload_n C dX3_fieldTold_24 0 rfl ?_
      refine z_get C inX3_fieldTold_X3 0 wM_o rfl 3 (by decide) (C.w 2 rfl) rfl dX3_fieldTold_25 ?_
      refine z_icmp_ge C 96 dX3_fieldTold_28 (by decide) (zle_NN (by omega) (by omega)) (fun c_28 => ?_) (fun h9 => absurd (by omega) h9)
      refine z_iload_n C dX3_fieldTold_96 2 rfl ?_
      refine z_iconst C (nI 1) dX3_fieldTold_97 (by decide) ?_
      refine z_icmp_ne C 105 dX3_fieldTold_98 (by decide) (zeq_NN (by omega) (by omega)) (fun h9 => absurd (by decide) h9) (fun c_98 => ?_)
      refine z_iconst C (iZ (-1)) dX3_fieldTold_101 (by decide) ?_
      refine z_goto C 107 dX3_fieldTold_102 (by decide) ?_
      exact z_iretE C dX3_fieldTold_107 (by show _ = iZ (if aWf a f = -1 then -1 else (zOw a (aWf a f).toNat : Int)); have hwf : aWf a f = -1 := (by unfold aWf; rw [zFw_0 ha, ← hr]; rfl); rw [hwf, if_pos rfl]) ⟨_, _, _, _, rfl, hz12⟩
    | succ k ih22 =>
      intro i m hik hr
      refine z_iload C dX3_fieldTold_22 5 rfl ?_
      refine z_aload_n C dX3_fieldTold_24 0 rfl ?_
      refine z_get C inX3_fieldTold_X3 0 wM_o rfl 3 (by decide) (C.w 2 rfl) rfl dX3_fieldTold_25 ?_
      refine z_icmp_ge C 96 dX3_fieldTold_28 (by decide) (zle_NN (by omega) (by omega)) (fun h9 => absurd h9 (by omega)) (fun c_28 => ?_)
      refine z_aload_n C dX3_fieldTold_31 0 rfl ?_
      refine z_iload C dX3_fieldTold_32 5 rfl ?_
      refine z_iconst C (nI 1) dX3_fieldTold_34 (by decide) ?_
      refine z_callV C (c_X3_bi_1 l g q th a la12 pe12 ga12 sz12 i (by omega)) (cwV 2 C.ts gX3_fieldTold_X3_bi rfl rfl rfl (by decide +kernel) ⟨Nat.le_of_ble_eq_true rfl, Nat.le_of_ble_eq_true rfl⟩) wM_o rfl rfl rfl (Nat.le_of_ble_eq_true rfl) dX3_fieldTold_35 ⟨Nat.zero_le _, Nat.zero_le _⟩ (z_i ?_)
      have f_35 := ha.bu8 (b := i) (by omega)
      refine z_iload_n C dX3_fieldTold_38 1 rfl ?_
      refine z_callS C (c_X3_bit l g (wM g q th a la12 pe12 ga12 sz12) (zBu a i) f (by omega) (by omega)) (va_cwS 2 C.ts gX3_fieldTold_X3_bit rfl rfl rfl (by decide +kernel) ⟨Nat.le_of_ble_eq_true rfl, Nat.le_of_ble_eq_true rfl⟩) rfl rfl (Nat.le_of_ble_eq_true rfl) dX3_fieldTold_39 ⟨Nat.zero_le _, Nat.zero_le _⟩ (z_i ?_)
      refine z_if_ne C 48 dX3_fieldTold_42 (by decide) (zeq_B0 _) (fun c_42 => ?_) (fun c_42 => ?_)
      · skip
        refine z_iload_n C dX3_fieldTold_48 2 rfl ?_
        refine z_iconst C (nI 1) dX3_fieldTold_49 (by decide) ?_
        refine z_icmp_ne C 71 dX3_fieldTold_50 (by decide) (zeq_NN (by omega) (by omega)) (fun h9 => absurd (by decide) h9) (fun c_50 => ?_)
        refine z_iload_n C dX3_fieldTold_53 3 rfl ?_
        refine z_iload C dX3_fieldTold_54 5 rfl ?_
        refine z_callS C (c_X3_bit l g (wM g q th a la12 pe12 ga12 sz12) (mBest a) i (by omega) (by omega)) (va_cwS 2 C.ts gX3_fieldTold_X3_bit rfl rfl rfl (by decide +kernel) ⟨Nat.le_of_ble_eq_true rfl, Nat.le_of_ble_eq_true rfl⟩) rfl rfl (Nat.le_of_ble_eq_true rfl) dX3_fieldTold_56 ⟨Nat.zero_le _, Nat.zero_le _⟩ (z_i ?_)
        refine z_iconst C (nI 1) dX3_fieldTold_59 (by decide) ?_
        refine z_icmp_ne C 71 dX3_fieldTold_60 (by decide) (zeq_B1 _) (fun c_60 => ?_) (fun c_60 => ?_)
        · skip
          refine z_iload C dX3_fieldTold_71 4 rfl ?_
          refine z_aload_n C dX3_fieldTold_73 0 rfl ?_
          refine z_iload C dX3_fieldTold_74 5 rfl ?_
          refine z_callV C (c_X3_isCounted l g q th a la12 pe12 ga12 sz12 ha i (by omega)) (cwV 1 C.ts gX3_fieldTold_X3_isCounted rfl rfl rfl (by decide +kernel) ⟨Nat.le_of_ble_eq_true rfl, Nat.le_of_ble_eq_true rfl⟩) wM_o rfl rfl rfl (Nat.le_of_ble_eq_true rfl) dX3_fieldTold_76 ⟨Nat.zero_le _, Nat.zero_le _⟩ (z_i ?_)
          refine z_if_eq C 86 dX3_fieldTold_79 (by decide) (zeq_B0 _) (fun c_79 => ?_) (fun c_79 => ?_)
          · skip
            refine z_iconst C (nI 0) dX3_fieldTold_86 (by decide) ?_
            refine z_iadd C dX3_fieldTold_87 (v := nI (m + 0)) (nI_add m 0) ?_
            refine z_istore C dX3_fieldTold_88 (by decide) [(4, .int (nI (m + 0))), (0, .ref (q 0)), (1, .int (nI f)), (2, .int (nI 1)), (3, .int (nI (mBest a))), (5, .int (nI i))] rfl ?_
            refine z_iinc C dX3_fieldTold_90 5 (nI (i + 1)) rfl (nI_add i 1) (by decide) [(5, .int (nI (i + 1))), (4, .int (nI (m + 0))), (0, .ref (q 0)), (1, .int (nI f)), (2, .int (nI 1)), (3, .int (nI (mBest a)))] rfl ?_
            refine z_goto C 22 dX3_fieldTold_93 (by decide) ?_
            refine zW.pick (lv' := [(0, .ref (q 0)), (1, .int (nI f)), (2, .int (nI 1)), (3, .int (nI (mBest a))), (4, .int (nI (m + 0))), (5, .int (nI (i + 1)))]) [2, 3, 4, 5, 1, 0] rfl ?_
            exact ih22 (i + 1) (m + 0) (by omega) (by rw [← hr]; simp_all [zFst])
          · skip
            refine z_iconst C (nI 1) dX3_fieldTold_82 (by decide) ?_
            refine z_goto C 87 dX3_fieldTold_83 (by decide) ?_
            refine z_iadd C dX3_fieldTold_87 (v := nI (m + 1)) (nI_add m 1) ?_
            refine z_istore C dX3_fieldTold_88 (by decide) [(4, .int (nI (m + 1))), (0, .ref (q 0)), (1, .int (nI f)), (2, .int (nI 1)), (3, .int (nI (mBest a))), (5, .int (nI i))] rfl ?_
            refine z_iinc C dX3_fieldTold_90 5 (nI (i + 1)) rfl (nI_add i 1) (by decide) [(5, .int (nI (i + 1))), (4, .int (nI (m + 1))), (0, .ref (q 0)), (1, .int (nI f)), (2, .int (nI 1)), (3, .int (nI (mBest a)))] rfl ?_
            refine z_goto C 22 dX3_fieldTold_93 (by decide) ?_
            refine zW.pick (lv' := [(0, .ref (q 0)), (1, .int (nI f)), (2, .int (nI 1)), (3, .int (nI (mBest a))), (4, .int (nI (m + 1))), (5, .int (nI (i + 1)))]) [2, 3, 4, 5, 1, 0] rfl ?_
            exact ih22 (i + 1) (m + 1) (by omega) (by rw [← hr]; simp_all [zFst])
        · skip
          refine z_aload_n C dX3_fieldTold_63 0 rfl ?_
          refine z_iload C dX3_fieldTold_64 5 rfl ?_
          refine z_iconst C (nI 0) dX3_fieldTold_66 (by decide) ?_
          refine z_callV C (c_X3_bi_0 l g q th a la12 pe12 ga12 sz12 i (by omega)) (cwV 2 C.ts gX3_fieldTold_X3_bi rfl rfl rfl (by decide +kernel) ⟨Nat.le_of_ble_eq_true rfl, Nat.le_of_ble_eq_true rfl⟩) wM_o rfl rfl rfl (Nat.le_of_ble_eq_true rfl) dX3_fieldTold_67 ⟨Nat.zero_le _, Nat.zero_le _⟩ (z_i ?_)
          have f_67 := ha.ow (b := i) (by omega)
          exact z_iretE C dX3_fieldTold_70 (by show _ = iZ (if aWf a f = -1 then -1 else (zOw a (aWf a f).toNat : Int)); have hwf : aWf a f = (i : Int) := (by unfold aWf; rw [zFw_0 ha, ← hr]; simp [zFst, c_42, c_60]); rw [hwf, if_neg (by omega)]; rfl) ⟨_, _, _, _, rfl, hz12⟩
      · skip
        refine z_goto C 90 dX3_fieldTold_45 (by decide) ?_
        refine z_iinc C dX3_fieldTold_90 5 (nI (i + 1)) rfl (nI_add i 1) (by decide) [(5, .int (nI (i + 1))), (0, .ref (q 0)), (1, .int (nI f)), (2, .int (nI 1)), (3, .int (nI (mBest a))), (4, .int (nI m))] rfl ?_
        refine z_goto C 22 dX3_fieldTold_93 (by decide) ?_
        refine zW.pick (lv' := [(0, .ref (q 0)), (1, .int (nI f)), (2, .int (nI 1)), (3, .int (nI (mBest a))), (4, .int (nI m)), (5, .int (nI (i + 1)))]) [1, 2, 3, 4, 5, 0] rfl ?_
        exact ih22 (i + 1) m (by omega) (by rw [← hr]; simp_all [zFst])
  exact hlp22 (zNb a) 0 0 (by omega) rfl
set_option maxRecDepth 100000 in
set_option maxHeartbeats 4000000 in
theorem c_X3_fieldTold_2 (l : Launch) (g : zG) (q : Nat → Nat) (th : Int) (a : zS) (la : Nat → Int) (pe : Nat → Nat) (ga : Nat → Int) (sz : Nat → Nat) (ha : zOk a) (h0 : zM0 la pe) (f : Nat) (hf : f < zNf a) : zM g l yX3_fieldTold wsX3_fieldTold { frames := 5, cells := 0, slots := 0, locals := 113 } [.ref (q 0), .int (nI f), .int (nI 2)] (wM g q th a la pe ga sz) (zPie (iZ (aLand a f 2)) (zMw g q th a)) 0 0 := by
  refine zM.of (cc := cX3_fieldTold) (nL := 6) (ret := (some .int)) (lv := [(0, .ref (q 0)), (1, .int (nI f)), (2, .int (nI 2))]) (by decide) rfl (Nat.le_of_ble_eq_true rfl) rfl ?_
  intro E C0 hi
  have C : zC g E cX3_fieldTold RX3 wsX3_fieldTold 6 (some .int) := C0
  obtain ⟨hnf, hnd, hnb, hou, hrs, hbd⟩ := id ha
  have hb12 := mBest_4096 ha
  refine z_iload_n C dX3_fieldTold_0 2 rfl ?_
  refine z_if_ne C 11 dX3_fieldTold_1 (by decide) (zeq_N0 (by omega)) (fun c_1 => ?_) (fun h9 => absurd h9 (by decide))
  refine z_aload_n C dX3_fieldTold_11 0 rfl ?_
  refine z_callV C (c_X3_sale l g q th a la pe ga sz ha h0) (cwV 0 C.ts gX3_fieldTold_X3_sale rfl rfl rfl (by decide +kernel) ⟨Nat.le_of_ble_eq_true rfl, Nat.le_of_ble_eq_true rfl⟩) wM_o rfl rfl rfl (Nat.le_of_ble_eq_true rfl) dX3_fieldTold_12 ⟨Nat.zero_le _, Nat.zero_le _⟩ (z_ie ?_)
  rintro _ ⟨la12, pe12, ga12, sz12, rfl, hz12, hG12⟩
  refine z_istore_n C dX3_fieldTold_15 (by decide) [(3, .int (nI (mBest a))), (0, .ref (q 0)), (1, .int (nI f)), (2, .int (nI 2))] rfl ?_
  refine z_iconst C (nI 0) dX3_fieldTold_16 (by decide) ?_
  refine z_istore C dX3_fieldTold_17 (by decide) [(4, .int (nI 0)), (3, .int (nI (mBest a))), (0, .ref (q 0)), (1, .int (nI f)), (2, .int (nI 2))] rfl ?_
  refine z_iconst C (nI 0) dX3_fieldTold_19 (by decide) ?_
  refine z_istore C dX3_fieldTold_20 (by decide) [(5, .int (nI 0)), (4, .int (nI 0)), (3, .int (nI (mBest a))), (0, .ref (q 0)), (1, .int (nI f)), (2, .int (nI 2))] rfl ?_
  refine zW.pick (lv' := [(0, .ref (q 0)), (1, .int (nI f)), (2, .int (nI 2)), (3, .int (nI (mBest a))), (4, .int (nI 0)), (5, .int (nI 0))]) [3, 4, 5, 2, 1, 0] rfl ?_
  have hlp22 : ∀ (k i : Nat), i + k = zNb a → zW g l ({ frames := 5, cells := 0, slots := 0, locals := 113 }) E (zMQ g E (zPie (iZ (aLand a f 2)) (zMw g q th a)) 0 0) 6 0 0 (wM g q th a la12 pe12 ga12 sz12) [(0, .ref (q 0)), (1, .int (nI f)), (2, .int (nI 2)), (3, .int (nI (mBest a))), (4, .int (nI (zCnt (fun b => zCn a (zOu a) b && (zBu a b).testBit f) i))), (5, .int (nI i))] [] 22 := by
    intro k
    induction k with
    | zero =>
      intro i hik
      refine z_iload C dX3_fieldTold_22 5 rfl ?_
      refine z_aload_n C dX3_fieldTold_24 0 rfl ?_
      refine z_get C inX3_fieldTold_X3 0 wM_o rfl 3 (by decide) (C.w 2 rfl) rfl dX3_fieldTold_25 ?_
      refine z_icmp_ge C 96 dX3_fieldTold_28 (by decide) (zle_NN (by omega) (by omega)) (fun c_28 => ?_) (fun h9 => absurd (by omega) h9)
      refine z_iload_n C dX3_fieldTold_96 2 rfl ?_
      refine z_iconst C (nI 1) dX3_fieldTold_97 (by decide) ?_
      refine z_icmp_ne C 105 dX3_fieldTold_98 (by decide) (zeq_NN (by omega) (by omega)) (fun c_98 => ?_) (fun h9 => absurd h9 (by decide))
      refine z_iload C dX3_fieldTold_105 4 rfl ?_
      exact z_iretE C dX3_fieldTold_107 (by rw [show i = zNb a by omega]; rfl) ⟨_, _, _, _, rfl, hz12⟩
    | succ k ih22 =>
      intro i hik
      refine z_iload C dX3_fieldTold_22 5 rfl ?_
      refine z_aload_n C dX3_fieldTold_24 0 rfl ?_
      refine z_get C inX3_fieldTold_X3 0 wM_o rfl 3 (by decide) (C.w 2 rfl) rfl dX3_fieldTold_25 ?_
      refine z_icmp_ge C 96 dX3_fieldTold_28 (by decide) (zle_NN (by omega) (by omega)) (fun h9 => absurd h9 (by omega)) (fun c_28 => ?_)
      refine z_aload_n C dX3_fieldTold_31 0 rfl ?_
      refine z_iload C dX3_fieldTold_32 5 rfl ?_
      refine z_iconst C (nI 1) dX3_fieldTold_34 (by decide) ?_
      refine z_callV C (c_X3_bi_1 l g q th a la12 pe12 ga12 sz12 i (by omega)) (cwV 2 C.ts gX3_fieldTold_X3_bi rfl rfl rfl (by decide +kernel) ⟨Nat.le_of_ble_eq_true rfl, Nat.le_of_ble_eq_true rfl⟩) wM_o rfl rfl rfl (Nat.le_of_ble_eq_true rfl) dX3_fieldTold_35 ⟨Nat.zero_le _, Nat.zero_le _⟩ (z_i ?_)
      have f_35 := ha.bu8 (b := i) (by omega)
      refine z_iload_n C dX3_fieldTold_38 1 rfl ?_
      refine z_callS C (c_X3_bit l g (wM g q th a la12 pe12 ga12 sz12) (zBu a i) f (by omega) (by omega)) (va_cwS 2 C.ts gX3_fieldTold_X3_bit rfl rfl rfl (by decide +kernel) ⟨Nat.le_of_ble_eq_true rfl, Nat.le_of_ble_eq_true rfl⟩) rfl rfl (Nat.le_of_ble_eq_true rfl) dX3_fieldTold_39 ⟨Nat.zero_le _, Nat.zero_le _⟩ (z_i ?_)
      refine z_if_ne C 48 dX3_fieldTold_42 (by decide) (zeq_B0 _) (fun c_42 => ?_) (fun c_42 => ?_)
      · skip
        refine z_iload_n C dX3_fieldTold_48 2 rfl ?_
        refine z_iconst C (nI 1) dX3_fieldTold_49 (by decide) ?_
        refine z_icmp_ne C 71 dX3_fieldTold_50 (by decide) (zeq_NN (by omega) (by omega)) (fun c_50 => ?_) (fun h9 => absurd h9 (by decide))
        refine z_iload C dX3_fieldTold_71 4 rfl ?_
        refine z_aload_n C dX3_fieldTold_73 0 rfl ?_
        refine z_iload C dX3_fieldTold_74 5 rfl ?_
        refine z_callV C (c_X3_isCounted l g q th a la12 pe12 ga12 sz12 ha i (by omega)) (cwV 1 C.ts gX3_fieldTold_X3_isCounted rfl rfl rfl (by decide +kernel) ⟨Nat.le_of_ble_eq_true rfl, Nat.le_of_ble_eq_true rfl⟩) wM_o rfl rfl rfl (Nat.le_of_ble_eq_true rfl) dX3_fieldTold_76 ⟨Nat.zero_le _, Nat.zero_le _⟩ (z_i ?_)
        refine z_if_eq C 86 dX3_fieldTold_79 (by decide) (zeq_B0 _) (fun c_79 => ?_) (fun c_79 => ?_)
        · skip
          refine z_iconst C (nI 0) dX3_fieldTold_86 (by decide) ?_
          refine z_iadd C dX3_fieldTold_87 (v := nI ((zCnt (fun b => zCn a (zOu a) b && (zBu a b).testBit f) i) + 0)) (nI_add (zCnt (fun b => zCn a (zOu a) b && (zBu a b).testBit f) i) 0) ?_
          refine z_istore C dX3_fieldTold_88 (by decide) [(4, .int (nI ((zCnt (fun b => zCn a (zOu a) b && (zBu a b).testBit f) i) + 0))), (0, .ref (q 0)), (1, .int (nI f)), (2, .int (nI 2)), (3, .int (nI (mBest a))), (5, .int (nI i))] rfl ?_
          refine z_iinc C dX3_fieldTold_90 5 (nI (i + 1)) rfl (nI_add i 1) (by decide) [(5, .int (nI (i + 1))), (4, .int (nI ((zCnt (fun b => zCn a (zOu a) b && (zBu a b).testBit f) i) + 0))), (0, .ref (q 0)), (1, .int (nI f)), (2, .int (nI 2)), (3, .int (nI (mBest a)))] rfl ?_
          refine z_goto C 22 dX3_fieldTold_93 (by decide) ?_
          refine zW.pick (lv' := [(0, .ref (q 0)), (1, .int (nI f)), (2, .int (nI 2)), (3, .int (nI (mBest a))), (4, .int (nI ((zCnt (fun b => zCn a (zOu a) b && (zBu a b).testBit f) i) + 0))), (5, .int (nI (i + 1)))]) [2, 3, 4, 5, 1, 0] rfl ?_
          refine zW.lve (lv' := [(0, .ref (q 0)), (1, .int (nI f)), (2, .int (nI 2)), (3, .int (nI (mBest a))), (4, .int (nI (zCnt (fun b => zCn a (zOu a) b && (zBu a b).testBit f) (i + 1)))), (5, .int (nI (i + 1)))]) (by simp_all [zCnt]) ?_
          exact ih22 (i + 1) (by omega)
        · skip
          refine z_iconst C (nI 1) dX3_fieldTold_82 (by decide) ?_
          refine z_goto C 87 dX3_fieldTold_83 (by decide) ?_
          refine z_iadd C dX3_fieldTold_87 (v := nI ((zCnt (fun b => zCn a (zOu a) b && (zBu a b).testBit f) i) + 1)) (nI_add (zCnt (fun b => zCn a (zOu a) b && (zBu a b).testBit f) i) 1) ?_
          refine z_istore C dX3_fieldTold_88 (by decide) [(4, .int (nI ((zCnt (fun b => zCn a (zOu a) b && (zBu a b).testBit f) i) + 1))), (0, .ref (q 0)), (1, .int (nI f)), (2, .int (nI 2)), (3, .int (nI (mBest a))), (5, .int (nI i))] rfl ?_
          refine z_iinc C dX3_fieldTold_90 5 (nI (i + 1)) rfl (nI_add i 1) (by decide) [(5, .int (nI (i + 1))), (4, .int (nI ((zCnt (fun b => zCn a (zOu a) b && (zBu a b).testBit f) i) + 1))), (0, .ref (q 0)), (1, .int (nI f)), (2, .int (nI 2)), (3, .int (nI (mBest a)))] rfl ?_
          refine z_goto C 22 dX3_fieldTold_93 (by decide) ?_
          refine zW.pick (lv' := [(0, .ref (q 0)), (1, .int (nI f)), (2, .int (nI 2)), (3, .int (nI (mBest a))), (4, .int (nI ((zCnt (fun b => zCn a (zOu a) b && (zBu a b).testBit f) i) + 1))), (5, .int (nI (i + 1)))]) [2, 3, 4, 5, 1, 0] rfl ?_
          refine zW.lve (lv' := [(0, .ref (q 0)), (1, .int (nI f)), (2, .int (nI 2)), (3, .int (nI (mBest a))), (4, .int (nI (zCnt (fun b => zCn a (zOu a) b && (zBu a b).testBit f) (i + 1)))), (5, .int (nI (i + 1)))]) (by simp_all [zCnt]) ?_
          exact ih22 (i + 1) (by omega)
      · skip
        refine z_goto C 90 dX3_fieldTold_45 (by decide) ?_
        refine z_iinc C dX3_fieldTold_90 5 (nI (i + 1)) rfl (nI_add i 1) (by decide) [(5, .int (nI (i + 1))), (0, .ref (q 0)), (1, .int (nI f)), (2, .int (nI 2)), (3, .int (nI (mBest a))), (4, .int (nI (zCnt (fun b => zCn a (zOu a) b && (zBu a b).testBit f) i)))] rfl ?_
        refine z_goto C 22 dX3_fieldTold_93 (by decide) ?_
        refine zW.pick (lv' := [(0, .ref (q 0)), (1, .int (nI f)), (2, .int (nI 2)), (3, .int (nI (mBest a))), (4, .int (nI (zCnt (fun b => zCn a (zOu a) b && (zBu a b).testBit f) i))), (5, .int (nI (i + 1)))]) [1, 2, 3, 4, 5, 0] rfl ?_
        refine zW.lve (lv' := [(0, .ref (q 0)), (1, .int (nI f)), (2, .int (nI 2)), (3, .int (nI (mBest a))), (4, .int (nI (zCnt (fun b => zCn a (zOu a) b && (zBu a b).testBit f) (i + 1)))), (5, .int (nI (i + 1)))]) (by simp_all [zCnt]) ?_
        exact ih22 (i + 1) (by omega)
  exact hlp22 (zNb a) 0 (by omega)
theorem c_X3_fieldTold (l : Launch) (g : zG) (q : Nat → Nat) (th : Int) (a : zS) (la : Nat → Int) (pe : Nat → Nat) (ga : Nat → Int) (sz : Nat → Nat) (ha : zOk a) (h0 : zM0 la pe) (f : Nat) (w : Nat) (hf : f < zNf a) (hw : w ≤ 2) : zM g l yX3_fieldTold wsX3_fieldTold { frames := 5, cells := 0, slots := 0, locals := 113 } [.ref (q 0), .int (nI f), .int (nI w)] (wM g q th a la pe ga sz) (zPie (iZ (aLand a f w)) (zMw g q th a)) 0 0 := by
  rcases (show w = 0 ∨ w = 1 ∨ w = 2 by omega) with rfl | rfl | rfl
  · exact c_X3_fieldTold_0 l g q th a la pe ga sz ha h0 f hf
  · exact c_X3_fieldTold_1 l g q th a la pe ga sz ha h0 f hf
  · exact c_X3_fieldTold_2 l g q th a la pe ga sz ha h0 f hf
theorem inX3_counted_X3 : ∀ w ∈ wsX30, w ∈ wsX3_counted := fun w h => List.mem_cons_of_mem _ (List.mem_append_right _ (h))
set_option maxRecDepth 100000 in
set_option maxHeartbeats 4000000 in
theorem c_X3_counted (l : Launch) (g : zG) (q : Nat → Nat) (th : Int) (a : zS) (la : Nat → Int) (pe : Nat → Nat) (ga : Nat → Int) (sz : Nat → Nat) (ha : zOk a) (h0 : zM0 la pe) (w : Nat) (hw : w ≤ 8) : zM g l yX3_counted wsX3_counted { frames := 8, cells := 0, slots := 0, locals := 182 } [.ref (q 0), .int (nI w)] (wM g q th a la pe ga sz) (zPie (iZ (aCount a w)) (zMw g q th a)) 0 0 := by
  refine zM.of (cc := cX3_counted) (nL := 5) (ret := (some .int)) (lv := [(0, .ref (q 0)), (1, .int (nI w))]) (by decide) rfl (Nat.le_of_ble_eq_true rfl) rfl ?_
  intro E C0 hi
  have C : zC g E cX3_counted RX3 wsX3_counted 5 (some .int) := C0
  obtain ⟨hnf, hnd, hnb, hou, hrs, hbd⟩ := id ha
  have hb12 := mBest_4096 ha
  refine z_iconst C (nI 0) dX3_counted_0 (by decide) ?_
  refine z_istore_n C dX3_counted_1 (by decide) [(2, .int (nI 0)), (0, .ref (q 0)), (1, .int (nI w))] rfl ?_
  refine z_iload_n C dX3_counted_2 2 rfl ?_
  rcases (show w = 0 ∨ w = 1 ∨ w = 2 ∨ w = 3 ∨ w = 4 ∨ w = 5 ∨ w = 6 ∨ w = 7 ∨ w = 8 by omega) with rfl | rfl | rfl | rfl | rfl | rfl | rfl | rfl | rfl
  · skip
    refine z_tabIn C 48 dX3_counted_3 (by decide) (by decide) (off := 45) (by decide) (by decide) ?_
    refine z_aload_n C dX3_counted_48 1 rfl ?_
    refine z_get C inX3_counted_X3 0 wM_o rfl 1 (by decide) (C.w 1 rfl) rfl dX3_counted_49 ?_
    exact z_iretE C dX3_counted_52 rfl ⟨_, _, _, _, rfl, h0⟩
  · skip
    refine z_tabIn C 53 dX3_counted_3 (by decide) (by decide) (off := 50) (by decide) (by decide) ?_
    refine z_aload_n C dX3_counted_53 1 rfl ?_
    refine z_get C inX3_counted_X3 0 wM_o rfl 2 (by decide) (C.w 2 rfl) rfl dX3_counted_54 ?_
    exact z_iretE C dX3_counted_57 rfl ⟨_, _, _, _, rfl, h0⟩
  · skip
    refine z_tabIn C 58 dX3_counted_3 (by decide) (by decide) (off := 55) (by decide) (by decide) ?_
    refine z_aload_n C dX3_counted_58 1 rfl ?_
    refine z_get C inX3_counted_X3 0 wM_o rfl 3 (by decide) (C.w 3 rfl) rfl dX3_counted_59 ?_
    exact z_iretE C dX3_counted_62 rfl ⟨_, _, _, _, rfl, h0⟩
  · skip
    refine z_tabIn C 63 dX3_counted_3 (by decide) (by decide) (off := 60) (by decide) (by decide) ?_
    refine z_aload_n C dX3_counted_63 1 rfl ?_
    refine z_get C inX3_counted_X3 0 wM_o rfl 9 (by decide) (C.w 4 rfl) rfl dX3_counted_64 ?_
    refine z_aload_n C dX3_counted_67 1 rfl ?_
    refine z_callV C (c_X3_sale l g q th a la pe ga sz ha h0) (cwV 0 C.ts gX3_counted_X3_sale rfl rfl rfl (by decide +kernel) ⟨Nat.le_of_ble_eq_true rfl, Nat.le_of_ble_eq_true rfl⟩) wM_o rfl rfl rfl (Nat.le_of_ble_eq_true rfl) dX3_counted_68 ⟨Nat.zero_le _, Nat.zero_le _⟩ (z_ie ?_)
    rintro _ ⟨la68, pe68, ga68, sz68, rfl, hz68, hG68⟩
    refine z_ialdN C 5 wM_ga (by omega) (by decide) dX3_counted_71 (v := iZ (ga68 (mBest a))) rfl ?_
    exact z_iretE C dX3_counted_72 (by rw [(hG68 _ (mBest_lt _)).1]; show _ = iZ (zFw a 0).1; rw [zFw_0 ha]) ⟨_, _, _, _, rfl, hz68⟩
  · skip
    refine z_tabIn C 73 dX3_counted_3 (by decide) (by decide) (off := 70) (by decide) (by decide) ?_
    refine z_aload_n C dX3_counted_73 1 rfl ?_
    refine z_get C inX3_counted_X3 0 wM_o rfl 10 (by decide) (C.w 5 rfl) rfl dX3_counted_74 ?_
    refine z_aload_n C dX3_counted_77 1 rfl ?_
    refine z_callV C (c_X3_sale l g q th a la pe ga sz ha h0) (cwV 0 C.ts gX3_counted_X3_sale rfl rfl rfl (by decide +kernel) ⟨Nat.le_of_ble_eq_true rfl, Nat.le_of_ble_eq_true rfl⟩) wM_o rfl rfl rfl (Nat.le_of_ble_eq_true rfl) dX3_counted_78 ⟨Nat.zero_le _, Nat.zero_le _⟩ (z_ie ?_)
    rintro _ ⟨la78, pe78, ga78, sz78, rfl, hz78, hG78⟩
    refine z_ialdN C 6 wM_sz (by omega) (by decide) dX3_counted_81 (v := nI (sz78 (mBest a))) rfl ?_
    exact z_iretE C dX3_counted_82 (by rw [(hG78 _ (mBest_lt _)).2]; show _ = iZ ((zPop (zFw a 0).2 12 : Nat) : Int); rw [zFw_0 ha]; rfl) ⟨_, _, _, _, rfl, hz78⟩
  · skip
    refine z_tabIn C 83 dX3_counted_3 (by decide) (by decide) (off := 80) (by decide) (by decide) ?_
    refine z_iconst C (nI 0) dX3_counted_83 (by decide) ?_
    refine z_istore_n C dX3_counted_84 (by decide) [(3, .int (nI 0)), (2, .int (nI 0)), (0, .ref (q 0)), (1, .int (nI 5))] rfl ?_
    refine zW.pick (lv' := [(0, .ref (q 0)), (1, .int (nI 5)), (2, .int (nI 0)), (3, .int (nI 0))]) [2, 3, 1, 0] rfl ?_
    have hlp85 : ∀ (k i : Nat) (la1 : Nat → Int) (pe1 : Nat → Nat) (ga1 : Nat → Int) (sz1 : Nat → Nat), i + k = zNf a → (zM0 la1 pe1) → zW g l ({ frames := 8, cells := 0, slots := 0, locals := 182 }) E (zMQ g E (zPie (iZ (aCount a 5)) (zMw g q th a)) 0 0) 5 0 0 (wM g q th a la1 pe1 ga1 sz1) [(0, .ref (q 0)), (1, .int (nI 5)), (2, .int (nI (mSoldN a i))), (3, .int (nI i))] [] 85 := by
      intro k
      induction k with
      | zero =>
        intro i la1 pe1 ga1 sz1 hik hz1
        refine z_iload_n C dX3_counted_85 3 rfl ?_
        refine z_aload_n C dX3_counted_86 0 rfl ?_
        refine z_get C inX3_counted_X3 0 wM_o rfl 1 (by decide) (C.w 1 rfl) rfl dX3_counted_87 ?_
        refine z_icmp_ge C 117 dX3_counted_90 (by decide) (zle_NN (by omega) (by omega)) (fun c_90 => ?_) (fun h9 => absurd (by omega) h9)
        refine z_iload_n C dX3_counted_117 2 rfl ?_
        exact z_iretE C dX3_counted_118 (by rw [show i = zNf a by omega, mSold_eq ha]; rfl) ⟨_, _, _, _, rfl, hz1⟩
      | succ k ih85 =>
        intro i la1 pe1 ga1 sz1 hik hz1
        have hla := aLand1_or ha i
        refine z_iload_n C dX3_counted_85 3 rfl ?_
        refine z_aload_n C dX3_counted_86 0 rfl ?_
        refine z_get C inX3_counted_X3 0 wM_o rfl 1 (by decide) (C.w 1 rfl) rfl dX3_counted_87 ?_
        refine z_icmp_ge C 117 dX3_counted_90 (by decide) (zle_NN (by omega) (by omega)) (fun h9 => absurd h9 (by omega)) (fun c_90 => ?_)
        refine z_iload_n C dX3_counted_93 2 rfl ?_
        refine z_aload_n C dX3_counted_94 0 rfl ?_
        refine z_iload_n C dX3_counted_95 3 rfl ?_
        refine z_iconst C (nI 1) dX3_counted_96 (by decide) ?_
        refine z_callV C (c_X3_fieldTold l g q th a la1 pe1 ga1 sz1 ha hz1 i 1 (by omega) (by omega)) (cwV 2 C.ts gX3_counted_X3_fieldTold rfl rfl rfl (by decide +kernel) ⟨Nat.le_of_ble_eq_true rfl, Nat.le_of_ble_eq_true rfl⟩) wM_o rfl rfl rfl (Nat.le_of_ble_eq_true rfl) dX3_counted_97 ⟨Nat.zero_le _, Nat.zero_le _⟩ (z_ie ?_)
        rintro _ ⟨la97, pe97, ga97, sz97, rfl, hz97⟩
        refine z_iconst C (iZ (-1)) dX3_counted_100 (by decide) ?_
        refine z_icmp_ne C 108 dX3_counted_101 (by decide) (zeq_ZZ (x := (aLand a i 1)) (y := (-1)) (by unfold zB31; omega) (by unfold zB31; omega)) (fun c_101 => ?_) (fun c_101 => ?_)
        · skip
          refine z_iconst C (nI 1) dX3_counted_108 (by decide) ?_
          refine z_iadd C dX3_counted_109 (v := nI ((mSoldN a i) + 1)) (nI_add (mSoldN a i) 1) ?_
          refine z_istore_n C dX3_counted_110 (by decide) [(2, .int (nI ((mSoldN a i) + 1))), (0, .ref (q 0)), (1, .int (nI 5)), (3, .int (nI i))] rfl ?_
          refine z_iinc C dX3_counted_111 3 (nI (i + 1)) rfl (nI_add i 1) (by decide) [(3, .int (nI (i + 1))), (2, .int (nI ((mSoldN a i) + 1))), (0, .ref (q 0)), (1, .int (nI 5))] rfl ?_
          refine z_goto C 85 dX3_counted_114 (by decide) ?_
          refine zW.pick (lv' := [(0, .ref (q 0)), (1, .int (nI 5)), (2, .int (nI ((mSoldN a i) + 1))), (3, .int (nI (i + 1)))]) [2, 3, 1, 0] rfl ?_
          refine zW.lve (lv' := [(0, .ref (q 0)), (1, .int (nI 5)), (2, .int (nI (mSoldN a (i + 1)))), (3, .int (nI (i + 1)))]) (by rw [show mSoldN a (i + 1) = mSoldN a i + (if aWf a i = -1 then 0 else 1) from rfl]; first | (rw [if_pos (by omega)]; done) | (rw [if_neg (by omega)]; done)) ?_
          exact ih85 (i + 1) la97 pe97 ga97 sz97 (by omega) hz97
        · skip
          refine z_iconst C (nI 0) dX3_counted_104 (by decide) ?_
          refine z_goto C 109 dX3_counted_105 (by decide) ?_
          refine z_iadd C dX3_counted_109 (v := nI ((mSoldN a i) + 0)) (nI_add (mSoldN a i) 0) ?_
          refine z_istore_n C dX3_counted_110 (by decide) [(2, .int (nI ((mSoldN a i) + 0))), (0, .ref (q 0)), (1, .int (nI 5)), (3, .int (nI i))] rfl ?_
          refine z_iinc C dX3_counted_111 3 (nI (i + 1)) rfl (nI_add i 1) (by decide) [(3, .int (nI (i + 1))), (2, .int (nI ((mSoldN a i) + 0))), (0, .ref (q 0)), (1, .int (nI 5))] rfl ?_
          refine z_goto C 85 dX3_counted_114 (by decide) ?_
          refine zW.pick (lv' := [(0, .ref (q 0)), (1, .int (nI 5)), (2, .int (nI ((mSoldN a i) + 0))), (3, .int (nI (i + 1)))]) [2, 3, 1, 0] rfl ?_
          refine zW.lve (lv' := [(0, .ref (q 0)), (1, .int (nI 5)), (2, .int (nI (mSoldN a (i + 1)))), (3, .int (nI (i + 1)))]) (by rw [show mSoldN a (i + 1) = mSoldN a i + (if aWf a i = -1 then 0 else 1) from rfl]; first | (rw [if_pos (by omega)]; done) | (rw [if_neg (by omega)]; done)) ?_
          exact ih85 (i + 1) la97 pe97 ga97 sz97 (by omega) hz97
    exact hlp85 (zNf a) 0 la pe ga sz (by omega) h0
  · skip
    refine z_tabIn C 119 dX3_counted_3 (by decide) (by decide) (off := 116) (by decide) (by decide) ?_
    refine z_aload_n C dX3_counted_119 1 rfl ?_
    refine z_callV C (c_X3_allPaid l g q th a la pe ga sz ha h0  ) (cwV 0 C.ts gX3_counted_X3_allPaid rfl rfl rfl (by decide +kernel) ⟨Nat.le_of_ble_eq_true rfl, Nat.le_of_ble_eq_true rfl⟩) wM_o rfl rfl rfl (Nat.le_of_ble_eq_true rfl) dX3_counted_120 ⟨Nat.zero_le _, Nat.zero_le _⟩ (z_ie ?_)
    rintro _ ⟨la120, pe120, ga120, sz120, rfl, hz120⟩
    exact z_iretE C dX3_counted_123 (by show _ = iZ (zSi (aPaid a) 5); rw [aPaid_all ha]) ⟨_, _, _, _, rfl, hz120⟩
  · skip
    refine z_tabIn C 124 dX3_counted_3 (by decide) (by decide) (off := 121) (by decide) (by decide) ?_
    refine z_iconst C (nI 0) dX3_counted_124 (by decide) ?_
    refine z_istore_n C dX3_counted_125 (by decide) [(3, .int (nI 0)), (2, .int (nI 0)), (0, .ref (q 0)), (1, .int (nI 7))] rfl ?_
    refine zW.pick (lv' := [(0, .ref (q 0)), (1, .int (nI 7)), (2, .int (nI 0)), (3, .int (nI 0))]) [2, 3, 1, 0] rfl ?_
    have hlp126 : ∀ (kj j : Nat) (la1 : Nat → Int) (pe1 : Nat → Nat) (ga1 : Nat → Int) (sz1 : Nat → Nat), j + kj = zNd a → (zM0 la1 pe1) → zW g l ({ frames := 8, cells := 0, slots := 0, locals := 182 }) E (zMQ g E (zPie (iZ (aCount a 7)) (zMw g q th a)) 0 0) 5 0 0 (wM g q th a la1 pe1 ga1 sz1) [(0, .ref (q 0)), (1, .int (nI 7)), (2, .int (iZ (zSi (aProf a) j))), (3, .int (nI j))] [] 126 := by
      intro kj
      induction kj with
      | zero =>
        intro j la1 pe1 ga1 sz1 hjk hz1
        refine z_iload_n C dX3_counted_126 3 rfl ?_
        refine z_aload_n C dX3_counted_127 0 rfl ?_
        refine z_get C inX3_counted_X3 0 wM_o rfl 2 (by decide) (C.w 2 rfl) rfl dX3_counted_128 ?_
        refine z_icmp_ge C 148 dX3_counted_131 (by decide) (zle_NN (by omega) (by omega)) (fun c_131 => ?_) (fun h9 => absurd (by omega) h9)
        refine z_iload_n C dX3_counted_148 2 rfl ?_
        exact z_iretE C dX3_counted_149 (by rw [show j = zNd a by omega]; rfl) ⟨_, _, _, _, rfl, hz1⟩
      | succ kj ih126 =>
        intro j la1 pe1 ga1 sz1 hjk hz1
        refine z_iload_n C dX3_counted_126 3 rfl ?_
        refine z_aload_n C dX3_counted_127 0 rfl ?_
        refine z_get C inX3_counted_X3 0 wM_o rfl 2 (by decide) (C.w 2 rfl) rfl dX3_counted_128 ?_
        refine z_icmp_ge C 148 dX3_counted_131 (by decide) (zle_NN (by omega) (by omega)) (fun h9 => absurd h9 (by omega)) (fun c_131 => ?_)
        refine z_iload_n C dX3_counted_134 2 rfl ?_
        refine z_aload_n C dX3_counted_135 0 rfl ?_
        refine z_iload_n C dX3_counted_136 3 rfl ?_
        refine z_callV C (c_X3_profit l g q th a la1 pe1 ga1 sz1 ha hz1 j (by omega)) (cwV 1 C.ts gX3_counted_X3_profit rfl rfl rfl (by decide +kernel) ⟨Nat.le_of_ble_eq_true rfl, Nat.le_of_ble_eq_true rfl⟩) wM_o rfl rfl rfl (Nat.le_of_ble_eq_true rfl) dX3_counted_137 ⟨Nat.zero_le _, Nat.zero_le _⟩ (z_ie ?_)
        rintro _ ⟨la137, pe137, ga137, sz137, rfl, hz137⟩
        refine z_iadd C dX3_counted_140 (v := iZ ((zSi (aProf a) j) + (aProf a j))) (iZ_add (zSi (aProf a) j) (aProf a j)) ?_
        refine z_istore_n C dX3_counted_141 (by decide) [(2, .int (iZ ((zSi (aProf a) j) + (aProf a j)))), (0, .ref (q 0)), (1, .int (nI 7)), (3, .int (nI j))] rfl ?_
        refine z_iinc C dX3_counted_142 3 (nI (j + 1)) rfl (nI_add j 1) (by decide) [(3, .int (nI (j + 1))), (2, .int (iZ ((zSi (aProf a) j) + (aProf a j)))), (0, .ref (q 0)), (1, .int (nI 7))] rfl ?_
        refine z_goto C 126 dX3_counted_145 (by decide) ?_
        refine zW.pick (lv' := [(0, .ref (q 0)), (1, .int (nI 7)), (2, .int (iZ ((zSi (aProf a) j) + (aProf a j)))), (3, .int (nI (j + 1)))]) [2, 3, 1, 0] rfl ?_
        refine zW.lve (lv' := [(0, .ref (q 0)), (1, .int (nI 7)), (2, .int (iZ (zSi (aProf a) (j + 1)))), (3, .int (nI (j + 1)))]) (rfl) ?_
        exact ih126 (j + 1) la137 pe137 ga137 sz137 (by omega) hz137
    exact hlp126 (zNd a) 0 la pe ga sz (by omega) h0
  · skip
    refine z_tabOut C 150 dX3_counted_3 (by decide) (by decide) ?_
    refine z_aload_n C dX3_counted_150 1 rfl ?_
    refine z_callV C (c_X3_sale l g q th a la pe ga sz ha h0) (cwV 0 C.ts gX3_counted_X3_sale rfl rfl rfl (by decide +kernel) ⟨Nat.le_of_ble_eq_true rfl, Nat.le_of_ble_eq_true rfl⟩) wM_o rfl rfl rfl (Nat.le_of_ble_eq_true rfl) dX3_counted_151 ⟨Nat.zero_le _, Nat.zero_le _⟩ (z_ie ?_)
    rintro _ ⟨la151, pe151, ga151, sz151, rfl, hz151, hG151⟩
    refine z_istore_n C dX3_counted_154 (by decide) [(3, .int (nI (mBest a))), (2, .int (nI 0)), (0, .ref (q 0)), (1, .int (nI 8))] rfl ?_
    refine z_iconst C (nI 0) dX3_counted_155 (by decide) ?_
    refine z_istore C dX3_counted_156 (by decide) [(4, .int (nI 0)), (3, .int (nI (mBest a))), (2, .int (nI 0)), (0, .ref (q 0)), (1, .int (nI 8))] rfl ?_
    refine zW.pick (lv' := [(0, .ref (q 0)), (1, .int (nI 8)), (2, .int (nI 0)), (3, .int (nI (mBest a))), (4, .int (nI 0))]) [3, 4, 2, 1, 0] rfl ?_
    have hlp158 : ∀ (kb b : Nat), b + kb = zNb a → zW g l ({ frames := 8, cells := 0, slots := 0, locals := 182 }) E (zMQ g E (zPie (iZ (aCount a 8)) (zMw g q th a)) 0 0) 5 0 0 (wM g q th a la151 pe151 ga151 sz151) [(0, .ref (q 0)), (1, .int (nI 8)), (2, .int (nI (zSum (fun b => if (mBest a).testBit b = true then zPr a b else 0) b))), (3, .int (nI (mBest a))), (4, .int (nI b))] [] 158 := by
      intro kb
      induction kb with
      | zero =>
        intro b hbk
        refine z_iload C dX3_counted_158 4 rfl ?_
        refine z_aload_n C dX3_counted_160 0 rfl ?_
        refine z_get C inX3_counted_X3 0 wM_o rfl 3 (by decide) (C.w 3 rfl) rfl dX3_counted_161 ?_
        refine z_icmp_ge C 190 dX3_counted_164 (by decide) (zle_NN (by omega) (by omega)) (fun c_164 => ?_) (fun h9 => absurd (by omega) h9)
        refine z_iload_n C dX3_counted_190 2 rfl ?_
        exact z_iretE C dX3_counted_191 (by rw [show b = zNb a by omega]; show _ = iZ ((zSum (fun b => if (zFw a 0).2.testBit b = true then zPr a b else 0) (zNb a) : Nat) : Int); rw [zFw_0 ha]; rfl) ⟨_, _, _, _, rfl, hz151⟩
      | succ kb ih158 =>
        intro b hbk
        refine z_iload C dX3_counted_158 4 rfl ?_
        refine z_aload_n C dX3_counted_160 0 rfl ?_
        refine z_get C inX3_counted_X3 0 wM_o rfl 3 (by decide) (C.w 3 rfl) rfl dX3_counted_161 ?_
        refine z_icmp_ge C 190 dX3_counted_164 (by decide) (zle_NN (by omega) (by omega)) (fun h9 => absurd h9 (by omega)) (fun c_164 => ?_)
        refine z_iload_n C dX3_counted_167 2 rfl ?_
        refine z_iload_n C dX3_counted_168 3 rfl ?_
        refine z_iload C dX3_counted_169 4 rfl ?_
        refine z_callS C (c_X3_bit l g (wM g q th a la151 pe151 ga151 sz151) (mBest a) b (by omega) (by omega)) (va_cwS 2 C.ts gX3_counted_X3_bit rfl rfl rfl (by decide +kernel) ⟨Nat.le_of_ble_eq_true rfl, Nat.le_of_ble_eq_true rfl⟩) rfl rfl (Nat.le_of_ble_eq_true rfl) dX3_counted_171 ⟨Nat.zero_le _, Nat.zero_le _⟩ (z_i ?_)
        refine z_aload_n C dX3_counted_174 0 rfl ?_
        refine z_iload C dX3_counted_175 4 rfl ?_
        refine z_iconst C (nI 2) dX3_counted_177 (by decide) ?_
        refine z_callV C (c_X3_bi_2 l g q th a la151 pe151 ga151 sz151 b (by omega)) (cwV 2 C.ts gX3_counted_X3_bi rfl rfl rfl (by decide +kernel) ⟨Nat.le_of_ble_eq_true rfl, Nat.le_of_ble_eq_true rfl⟩) wM_o rfl rfl rfl (Nat.le_of_ble_eq_true rfl) dX3_counted_178 ⟨Nat.zero_le _, Nat.zero_le _⟩ (z_i ?_)
        have f_178 := ha.pr (b := b) (by omega)
        refine z_imul C dX3_counted_181 (v := nI (if (mBest a).testBit b = true then zPr a b else 0)) (zB_mul _ _) ?_
        refine z_iadd C dX3_counted_182 (v := nI ((zSum (fun b => if (mBest a).testBit b = true then zPr a b else 0) b) + (if (mBest a).testBit b = true then zPr a b else 0))) (nI_add (zSum (fun b => if (mBest a).testBit b = true then zPr a b else 0) b) (if (mBest a).testBit b = true then zPr a b else 0)) ?_
        refine z_istore_n C dX3_counted_183 (by decide) [(2, .int (nI ((zSum (fun b => if (mBest a).testBit b = true then zPr a b else 0) b) + (if (mBest a).testBit b = true then zPr a b else 0)))), (0, .ref (q 0)), (1, .int (nI 8)), (3, .int (nI (mBest a))), (4, .int (nI b))] rfl ?_
        refine z_iinc C dX3_counted_184 4 (nI (b + 1)) rfl (nI_add b 1) (by decide) [(4, .int (nI (b + 1))), (2, .int (nI ((zSum (fun b => if (mBest a).testBit b = true then zPr a b else 0) b) + (if (mBest a).testBit b = true then zPr a b else 0)))), (0, .ref (q 0)), (1, .int (nI 8)), (3, .int (nI (mBest a)))] rfl ?_
        refine z_goto C 158 dX3_counted_187 (by decide) ?_
        refine zW.pick (lv' := [(0, .ref (q 0)), (1, .int (nI 8)), (2, .int (nI ((zSum (fun b => if (mBest a).testBit b = true then zPr a b else 0) b) + (if (mBest a).testBit b = true then zPr a b else 0)))), (3, .int (nI (mBest a))), (4, .int (nI (b + 1)))]) [2, 3, 1, 4, 0] rfl ?_
        refine zW.lve (lv' := [(0, .ref (q 0)), (1, .int (nI 8)), (2, .int (nI (zSum (fun b => if (mBest a).testBit b = true then zPr a b else 0) (b + 1)))), (3, .int (nI (mBest a))), (4, .int (nI (b + 1)))]) (rfl) ?_
        exact ih158 (b + 1) (by omega)
    exact hlp158 (zNb a) 0 (by omega)
theorem mMx_le {a : zS} (ha : zOk a) {f : Nat} (hf : f < zNf a) {p : Nat → Bool} : ∀ {n : Nat}, n ≤ zNb a → mMx a f p n ≤ 999
  | 0, _ => by
    have := ha.rs hf
    show zRs a f ≤ 999
    omega
  | n + 1, h => by
    have h1 := mMx_le ha hf (p := p) (n := n) (by omega)
    have h2 := ha.pr (b := n) (by omega)
    show (if p n = true then max (mMx a f p n) (zPr a n) else mMx a f p n) ≤ 999
    split
    · exact Nat.max_le.mpr ⟨h1, h2⟩
    · exact h1
theorem inX3_aloneTold_X3 : ∀ w ∈ wsX30, w ∈ wsX3_aloneTold := fun w h => List.mem_cons_of_mem _ (List.mem_append_right _ (h))
set_option maxRecDepth 100000 in
set_option maxHeartbeats 4000000 in
theorem c_X3_aloneTold_0 (l : Launch) (g : zG) (q : Nat → Nat) (th : Int) (a : zS) (la : Nat → Int) (pe : Nat → Nat) (ga : Nat → Int) (sz : Nat → Nat) (ha : zOk a) (h0 : zM0 la pe) (f : Nat) (hf : f < zNf a) : zM g l yX3_aloneTold wsX3_aloneTold { frames := 4, cells := 0, slots := 0, locals := 86 } [.ref (q 0), .int (nI f), .int (nI 0)] (wM g q th a la pe ga sz) (zPie (iZ (aAlone a f 0)) (zMw g q th a)) 0 0 := by
  refine zM.of (cc := cX3_aloneTold) (nL := 6) (ret := (some .int)) (lv := [(0, .ref (q 0)), (1, .int (nI f)), (2, .int (nI 0))]) (by decide) rfl (Nat.le_of_ble_eq_true rfl) rfl ?_
  intro E C0 hi
  have C : zC g E cX3_aloneTold RX3 wsX3_aloneTold 6 (some .int) := C0
  obtain ⟨hnf, hnd, hnb, hou, hrs, hbd⟩ := id ha
  have p8 : 2 ^ f ≤ 2 ^ 8 := zp2_le (by omega)
  refine z_iconst C (iZ (-1)) dX3_aloneTold_0 (by decide) ?_
  refine z_istore_n C dX3_aloneTold_1 (by decide) [(3, .int (iZ (-1))), (0, .ref (q 0)), (1, .int (nI f)), (2, .int (nI 0))] rfl ?_
  refine z_iconst C (nI 0) dX3_aloneTold_2 (by decide) ?_
  refine z_istore C dX3_aloneTold_3 (by decide) [(4, .int (nI 0)), (3, .int (iZ (-1))), (0, .ref (q 0)), (1, .int (nI f)), (2, .int (nI 0))] rfl ?_
  refine zW.pick (lv' := [(0, .ref (q 0)), (1, .int (nI f)), (2, .int (nI 0)), (3, .int (iZ (-1))), (4, .int (nI 0))]) [2, 3, 4, 1, 0] rfl ?_
  have hlp5 : ∀ (k i : Nat), i + k = zNb a → zW g l ({ frames := 4, cells := 0, slots := 0, locals := 86 }) E (zMQ g E (zPie (iZ (aAlone a f 0)) (zMw g q th a)) 0 0) 6 0 0 (wM g q th a la pe ga sz) [(0, .ref (q 0)), (1, .int (nI f)), (2, .int (nI 0)), (3, .int (iZ (zHi a (zCo a f (-1)) i))), (4, .int (nI i))] [] 5 := by
    intro k
    induction k with
    | zero =>
      intro i hik
      refine z_iload C dX3_aloneTold_5 4 rfl ?_
      refine z_aload_n C dX3_aloneTold_7 0 rfl ?_
      refine z_get C inX3_aloneTold_X3 0 wM_o rfl 3 (by decide) (C.w 1 rfl) rfl dX3_aloneTold_8 ?_
      refine z_icmp_ge C 66 dX3_aloneTold_11 (by decide) (zle_NN (by omega) (by omega)) (fun c_11 => ?_) (fun h9 => absurd (by omega) h9)
      have hi9 : i = zNb a := by omega
      subst hi9
      rcases zHi_or a (zCo a f (-1)) (zNb a) with hwn | ⟨c, hc, hwn, -⟩
      · skip
        rw [hwn]
        have hwn : aHi a f (-1) = -1 := hwn
        refine z_iload_n C dX3_aloneTold_66 3 rfl ?_
        refine z_iconst C (iZ (-1)) dX3_aloneTold_67 (by decide) ?_
        refine z_icmp_eq C 75 dX3_aloneTold_68 (by decide) (zeq_ZZ (x := (-1)) (y := (-1)) (by unfold zB31; omega) (by unfold zB31; omega)) (fun c_68 => ?_) (fun h9 => absurd (by decide) h9)
        refine z_iload_n C dX3_aloneTold_75 3 rfl ?_
        exact z_iretE C dX3_aloneTold_76 (by unfold aAlone; rw [if_pos hwn]) ⟨_, _, _, _, rfl, h0⟩
      · skip
        rw [hwn]
        have hwn : aHi a f (-1) = (c : Int) := hwn
        refine z_iload_n C dX3_aloneTold_66 3 rfl ?_
        refine z_iconst C (iZ (-1)) dX3_aloneTold_67 (by decide) ?_
        refine z_icmp_eq C 75 dX3_aloneTold_68 (by decide) (zeq_ZZ (x := ((c : Nat) : Int)) (y := (-1)) (by unfold zB31; omega) (by unfold zB31; omega)) (fun h9 => absurd h9 (by omega)) (fun c_68 => ?_)
        refine z_iload_n C dX3_aloneTold_71 2 rfl ?_
        refine z_if_ne C 77 dX3_aloneTold_72 (by decide) (zeq_N0 (by omega)) (fun h9 => absurd (by decide) h9) (fun c_72 => ?_)
        refine z_iload_n C dX3_aloneTold_75 3 rfl ?_
        exact z_iretE C dX3_aloneTold_76 (by unfold aAlone; rw [hwn, if_neg (by omega)]; rfl) ⟨_, _, _, _, rfl, h0⟩
    | succ k ih5 =>
      intro i hik
      have hH : -1 ≤ zHi a (zCo a f (-1)) i ∧ zHi a (zCo a f (-1)) i < 12 := by rcases zHi_or a (zCo a f (-1)) i with h | ⟨c, h1, h2, -⟩ <;> omega
      have how1 : ¬ ((zOw a i : Nat) : Int) = -1 := by omega
      refine z_iload C dX3_aloneTold_5 4 rfl ?_
      refine z_aload_n C dX3_aloneTold_7 0 rfl ?_
      refine z_get C inX3_aloneTold_X3 0 wM_o rfl 3 (by decide) (C.w 1 rfl) rfl dX3_aloneTold_8 ?_
      refine z_icmp_ge C 66 dX3_aloneTold_11 (by decide) (zle_NN (by omega) (by omega)) (fun h9 => absurd h9 (by omega)) (fun c_11 => ?_)
      refine z_aload_n C dX3_aloneTold_14 0 rfl ?_
      refine z_iload C dX3_aloneTold_15 4 rfl ?_
      refine z_callV C (c_X3_isCounted l g q th a la pe ga sz ha i (by omega)) (cwV 1 C.ts gX3_aloneTold_X3_isCounted rfl rfl rfl (by decide +kernel) ⟨Nat.le_of_ble_eq_true rfl, Nat.le_of_ble_eq_true rfl⟩) wM_o rfl rfl rfl (Nat.le_of_ble_eq_true rfl) dX3_aloneTold_17 ⟨Nat.zero_le _, Nat.zero_le _⟩ (z_i ?_)
      refine z_if_eq C 60 dX3_aloneTold_20 (by decide) (zeq_B0 _) (fun c_20 => ?_) (fun c_20 => ?_)
      · skip
        refine z_iinc C dX3_aloneTold_60 4 (nI (i + 1)) rfl (nI_add i 1) (by decide) [(4, .int (nI (i + 1))), (0, .ref (q 0)), (1, .int (nI f)), (2, .int (nI 0)), (3, .int (iZ (zHi a (zCo a f (-1)) i)))] rfl ?_
        refine z_goto C 5 dX3_aloneTold_63 (by decide) ?_
        refine zW.pick (lv' := [(0, .ref (q 0)), (1, .int (nI f)), (2, .int (nI 0)), (3, .int (iZ (zHi a (zCo a f (-1)) i))), (4, .int (nI (i + 1)))]) [1, 2, 3, 4, 0] rfl ?_
        refine zW.lve (lv' := [(0, .ref (q 0)), (1, .int (nI f)), (2, .int (nI 0)), (3, .int (iZ (zHi a (zCo a f (-1)) (i + 1)))), (4, .int (nI (i + 1)))]) (by first | (simp_all [zHi, zCo, iZ_n]; done) | (simp_all [zHi, zCo, iZ_n]; rw [if_neg (by omega)]; rfl)) ?_
        exact ih5 (i + 1) (by omega)
      · skip
        refine z_aload_n C dX3_aloneTold_23 0 rfl ?_
        refine z_iload C dX3_aloneTold_24 4 rfl ?_
        refine z_iconst C (nI 1) dX3_aloneTold_26 (by decide) ?_
        refine z_callV C (c_X3_bi_1 l g q th a la pe ga sz i (by omega)) (cwV 2 C.ts gX3_aloneTold_X3_bi rfl rfl rfl (by decide +kernel) ⟨Nat.le_of_ble_eq_true rfl, Nat.le_of_ble_eq_true rfl⟩) wM_o rfl rfl rfl (Nat.le_of_ble_eq_true rfl) dX3_aloneTold_27 ⟨Nat.zero_le _, Nat.zero_le _⟩ (z_i ?_)
        have f_27 := ha.bu8 (b := i) (by omega)
        refine z_iconst C (nI 1) dX3_aloneTold_30 (by decide) ?_
        refine z_iload_n C dX3_aloneTold_31 1 rfl ?_
        refine z_ishl C dX3_aloneTold_32 (v := nI (2 ^ f)) (zshl_1N (by omega)) ?_
        refine z_icmp_ne C 60 dX3_aloneTold_33 (by decide) (zeq_NN (by omega) (by omega)) (fun c_33 => ?_) (fun c_33 => ?_)
        · skip
          refine z_iinc C dX3_aloneTold_60 4 (nI (i + 1)) rfl (nI_add i 1) (by decide) [(4, .int (nI (i + 1))), (0, .ref (q 0)), (1, .int (nI f)), (2, .int (nI 0)), (3, .int (iZ (zHi a (zCo a f (-1)) i)))] rfl ?_
          refine z_goto C 5 dX3_aloneTold_63 (by decide) ?_
          refine zW.pick (lv' := [(0, .ref (q 0)), (1, .int (nI f)), (2, .int (nI 0)), (3, .int (iZ (zHi a (zCo a f (-1)) i))), (4, .int (nI (i + 1)))]) [1, 2, 3, 4, 0] rfl ?_
          refine zW.lve (lv' := [(0, .ref (q 0)), (1, .int (nI f)), (2, .int (nI 0)), (3, .int (iZ (zHi a (zCo a f (-1)) (i + 1)))), (4, .int (nI (i + 1)))]) (by first | (simp_all [zHi, zCo, iZ_n]; done) | (simp_all [zHi, zCo, iZ_n]; rw [if_neg (by omega)]; rfl)) ?_
          exact ih5 (i + 1) (by omega)
        · skip
          refine z_iload_n C dX3_aloneTold_36 3 rfl ?_
          refine z_iconst C (iZ (-1)) dX3_aloneTold_37 (by decide) ?_
          refine z_icmp_eq C 57 dX3_aloneTold_38 (by decide) (zeq_ZZ (x := (zHi a (zCo a f (-1)) i)) (y := (-1)) (by unfold zB31; omega) (by unfold zB31; omega)) (fun c_38 => ?_) (fun c_38 => ?_)
          · skip
            refine z_iload C dX3_aloneTold_57 4 rfl ?_
            refine z_istore_n C dX3_aloneTold_59 (by decide) [(3, .int (nI i)), (0, .ref (q 0)), (1, .int (nI f)), (2, .int (nI 0)), (4, .int (nI i))] rfl ?_
            refine z_iinc C dX3_aloneTold_60 4 (nI (i + 1)) rfl (nI_add i 1) (by decide) [(4, .int (nI (i + 1))), (3, .int (nI i)), (0, .ref (q 0)), (1, .int (nI f)), (2, .int (nI 0))] rfl ?_
            refine z_goto C 5 dX3_aloneTold_63 (by decide) ?_
            refine zW.pick (lv' := [(0, .ref (q 0)), (1, .int (nI f)), (2, .int (nI 0)), (3, .int (nI i)), (4, .int (nI (i + 1)))]) [2, 3, 4, 1, 0] rfl ?_
            refine zW.lve (lv' := [(0, .ref (q 0)), (1, .int (nI f)), (2, .int (nI 0)), (3, .int (iZ (zHi a (zCo a f (-1)) (i + 1)))), (4, .int (nI (i + 1)))]) (by first | (simp_all [zHi, zCo, iZ_n]; done) | (simp_all [zHi, zCo, iZ_n]; rw [if_neg (by omega)]; rfl)) ?_
            exact ih5 (i + 1) (by omega)
          · skip
            obtain ⟨c, hc, hce, -⟩ := (zHi_or a (zCo a f (-1)) i).resolve_left c_38
            refine z_aload_n C dX3_aloneTold_41 0 rfl ?_
            refine z_iload C dX3_aloneTold_42 4 rfl ?_
            refine z_iconst C (nI 2) dX3_aloneTold_44 (by decide) ?_
            refine z_callV C (c_X3_bi_2 l g q th a la pe ga sz i (by omega)) (cwV 2 C.ts gX3_aloneTold_X3_bi rfl rfl rfl (by decide +kernel) ⟨Nat.le_of_ble_eq_true rfl, Nat.le_of_ble_eq_true rfl⟩) wM_o rfl rfl rfl (Nat.le_of_ble_eq_true rfl) dX3_aloneTold_45 ⟨Nat.zero_le _, Nat.zero_le _⟩ (z_i ?_)
            have f_45 := ha.pr (b := i) (by omega)
            refine z_aload_n C dX3_aloneTold_48 0 rfl ?_
            refine z_iload_n C dX3_aloneTold_49 3 rfl ?_
            refine zW.top (y := nI c) (by rw [hce]; rfl) ?_
            refine z_iconst C (nI 2) dX3_aloneTold_50 (by decide) ?_
            refine z_callV C (c_X3_bi_2 l g q th a la pe ga sz c (by omega)) (cwV 2 C.ts gX3_aloneTold_X3_bi rfl rfl rfl (by decide +kernel) ⟨Nat.le_of_ble_eq_true rfl, Nat.le_of_ble_eq_true rfl⟩) wM_o rfl rfl rfl (Nat.le_of_ble_eq_true rfl) dX3_aloneTold_51 ⟨Nat.zero_le _, Nat.zero_le _⟩ (z_i ?_)
            have f_51 := ha.pr (b := c) (by omega)
            refine z_icmp_le C 60 dX3_aloneTold_54 (by decide) (zle_NN (by omega) (by omega)) (fun c_54 => ?_) (fun c_54 => ?_)
            · skip
              refine z_iinc C dX3_aloneTold_60 4 (nI (i + 1)) rfl (nI_add i 1) (by decide) [(4, .int (nI (i + 1))), (0, .ref (q 0)), (1, .int (nI f)), (2, .int (nI 0)), (3, .int (iZ (zHi a (zCo a f (-1)) i)))] rfl ?_
              refine z_goto C 5 dX3_aloneTold_63 (by decide) ?_
              refine zW.pick (lv' := [(0, .ref (q 0)), (1, .int (nI f)), (2, .int (nI 0)), (3, .int (iZ (zHi a (zCo a f (-1)) i))), (4, .int (nI (i + 1)))]) [1, 2, 3, 4, 0] rfl ?_
              refine zW.lve (lv' := [(0, .ref (q 0)), (1, .int (nI f)), (2, .int (nI 0)), (3, .int (iZ (zHi a (zCo a f (-1)) (i + 1)))), (4, .int (nI (i + 1)))]) (by first | (simp_all [zHi, zCo, iZ_n]; done) | (simp_all [zHi, zCo, iZ_n]; rw [if_neg (by omega)]; rfl)) ?_
              exact ih5 (i + 1) (by omega)
            · skip
              refine z_iload C dX3_aloneTold_57 4 rfl ?_
              refine z_istore_n C dX3_aloneTold_59 (by decide) [(3, .int (nI i)), (0, .ref (q 0)), (1, .int (nI f)), (2, .int (nI 0)), (4, .int (nI i))] rfl ?_
              refine z_iinc C dX3_aloneTold_60 4 (nI (i + 1)) rfl (nI_add i 1) (by decide) [(4, .int (nI (i + 1))), (3, .int (nI i)), (0, .ref (q 0)), (1, .int (nI f)), (2, .int (nI 0))] rfl ?_
              refine z_goto C 5 dX3_aloneTold_63 (by decide) ?_
              refine zW.pick (lv' := [(0, .ref (q 0)), (1, .int (nI f)), (2, .int (nI 0)), (3, .int (nI i)), (4, .int (nI (i + 1)))]) [2, 3, 4, 1, 0] rfl ?_
              refine zW.lve (lv' := [(0, .ref (q 0)), (1, .int (nI f)), (2, .int (nI 0)), (3, .int (iZ (zHi a (zCo a f (-1)) (i + 1)))), (4, .int (nI (i + 1)))]) (by first | (simp_all [zHi, zCo, iZ_n]; done) | (simp_all [zHi, zCo, iZ_n]; rw [if_neg (by omega)]; rfl)) ?_
              exact ih5 (i + 1) (by omega)
  exact hlp5 (zNb a) 0 (by omega)
set_option maxRecDepth 100000 in
set_option maxHeartbeats 4000000 in
theorem c_X3_aloneTold_1 (l : Launch) (g : zG) (q : Nat → Nat) (th : Int) (a : zS) (la : Nat → Int) (pe : Nat → Nat) (ga : Nat → Int) (sz : Nat → Nat) (ha : zOk a) (h0 : zM0 la pe) (f : Nat) (hf : f < zNf a) : zM g l yX3_aloneTold wsX3_aloneTold { frames := 4, cells := 0, slots := 0, locals := 86 } [.ref (q 0), .int (nI f), .int (nI 1)] (wM g q th a la pe ga sz) (zPie (iZ (aAlone a f 1)) (zMw g q th a)) 0 0 := by
  refine zM.of (cc := cX3_aloneTold) (nL := 6) (ret := (some .int)) (lv := [(0, .ref (q 0)), (1, .int (nI f)), (2, .int (nI 1))]) (by decide) rfl (Nat.le_of_ble_eq_true rfl) rfl ?_
  intro E C0 hi
  have C : zC g E cX3_aloneTold RX3 wsX3_aloneTold 6 (some .int) := C0
  obtain ⟨hnf, hnd, hnb, hou, hrs, hbd⟩ := id ha
  have p8 : 2 ^ f ≤ 2 ^ 8 := zp2_le (by omega)
  refine z_iconst C (iZ (-1)) dX3_aloneTold_0 (by decide) ?_
  refine z_istore_n C dX3_aloneTold_1 (by decide) [(3, .int (iZ (-1))), (0, .ref (q 0)), (1, .int (nI f)), (2, .int (nI 1))] rfl ?_
  refine z_iconst C (nI 0) dX3_aloneTold_2 (by decide) ?_
  refine z_istore C dX3_aloneTold_3 (by decide) [(4, .int (nI 0)), (3, .int (iZ (-1))), (0, .ref (q 0)), (1, .int (nI f)), (2, .int (nI 1))] rfl ?_
  refine zW.pick (lv' := [(0, .ref (q 0)), (1, .int (nI f)), (2, .int (nI 1)), (3, .int (iZ (-1))), (4, .int (nI 0))]) [2, 3, 4, 1, 0] rfl ?_
  have hlp5 : ∀ (k i : Nat), i + k = zNb a → zW g l ({ frames := 4, cells := 0, slots := 0, locals := 86 }) E (zMQ g E (zPie (iZ (aAlone a f 1)) (zMw g q th a)) 0 0) 6 0 0 (wM g q th a la pe ga sz) [(0, .ref (q 0)), (1, .int (nI f)), (2, .int (nI 1)), (3, .int (iZ (zHi a (zCo a f (-1)) i))), (4, .int (nI i))] [] 5 := by
    intro k
    induction k with
    | zero =>
      intro i hik
      refine z_iload C dX3_aloneTold_5 4 rfl ?_
      refine z_aload_n C dX3_aloneTold_7 0 rfl ?_
      refine z_get C inX3_aloneTold_X3 0 wM_o rfl 3 (by decide) (C.w 1 rfl) rfl dX3_aloneTold_8 ?_
      refine z_icmp_ge C 66 dX3_aloneTold_11 (by decide) (zle_NN (by omega) (by omega)) (fun c_11 => ?_) (fun h9 => absurd (by omega) h9)
      have hi9 : i = zNb a := by omega
      subst hi9
      rcases zHi_or a (zCo a f (-1)) (zNb a) with hwn | ⟨c, hc, hwn, -⟩
      · skip
        rw [hwn]
        have hwn : aHi a f (-1) = -1 := hwn
        refine z_iload_n C dX3_aloneTold_66 3 rfl ?_
        refine z_iconst C (iZ (-1)) dX3_aloneTold_67 (by decide) ?_
        refine z_icmp_eq C 75 dX3_aloneTold_68 (by decide) (zeq_ZZ (x := (-1)) (y := (-1)) (by unfold zB31; omega) (by unfold zB31; omega)) (fun c_68 => ?_) (fun h9 => absurd (by decide) h9)
        refine z_iload_n C dX3_aloneTold_75 3 rfl ?_
        exact z_iretE C dX3_aloneTold_76 (by unfold aAlone; rw [if_pos hwn]) ⟨_, _, _, _, rfl, h0⟩
      · skip
        rw [hwn]
        have hwn : aHi a f (-1) = (c : Int) := hwn
        refine z_iload_n C dX3_aloneTold_66 3 rfl ?_
        refine z_iconst C (iZ (-1)) dX3_aloneTold_67 (by decide) ?_
        refine z_icmp_eq C 75 dX3_aloneTold_68 (by decide) (zeq_ZZ (x := ((c : Nat) : Int)) (y := (-1)) (by unfold zB31; omega) (by unfold zB31; omega)) (fun h9 => absurd h9 (by omega)) (fun c_68 => ?_)
        refine z_iload_n C dX3_aloneTold_71 2 rfl ?_
        refine z_if_ne C 77 dX3_aloneTold_72 (by decide) (zeq_N0 (by omega)) (fun c_72 => ?_) (fun h9 => absurd h9 (by decide))
        refine z_iload_n C dX3_aloneTold_77 2 rfl ?_
        refine z_iconst C (nI 1) dX3_aloneTold_78 (by decide) ?_
        refine z_icmp_ne C 89 dX3_aloneTold_79 (by decide) (zeq_NN (by omega) (by omega)) (fun h9 => absurd (by decide) h9) (fun c_79 => ?_)
        refine z_aload_n C dX3_aloneTold_82 0 rfl ?_
        refine z_iload_n C dX3_aloneTold_83 3 rfl ?_
        refine z_iconst C (nI 0) dX3_aloneTold_84 (by decide) ?_
        refine z_callV C (c_X3_bi_0 l g q th a la pe ga sz c (by omega)) (cwV 2 C.ts gX3_aloneTold_X3_bi rfl rfl rfl (by decide +kernel) ⟨Nat.le_of_ble_eq_true rfl, Nat.le_of_ble_eq_true rfl⟩) wM_o rfl rfl rfl (Nat.le_of_ble_eq_true rfl) dX3_aloneTold_85 ⟨Nat.zero_le _, Nat.zero_le _⟩ (z_i ?_)
        have f_85 := ha.ow (b := c) (by omega)
        exact z_iretE C dX3_aloneTold_88 (by unfold aAlone; rw [hwn, if_neg (by omega)]; rfl) ⟨_, _, _, _, rfl, h0⟩
    | succ k ih5 =>
      intro i hik
      have hH : -1 ≤ zHi a (zCo a f (-1)) i ∧ zHi a (zCo a f (-1)) i < 12 := by rcases zHi_or a (zCo a f (-1)) i with h | ⟨c, h1, h2, -⟩ <;> omega
      have how1 : ¬ ((zOw a i : Nat) : Int) = -1 := by omega
      refine z_iload C dX3_aloneTold_5 4 rfl ?_
      refine z_aload_n C dX3_aloneTold_7 0 rfl ?_
      refine z_get C inX3_aloneTold_X3 0 wM_o rfl 3 (by decide) (C.w 1 rfl) rfl dX3_aloneTold_8 ?_
      refine z_icmp_ge C 66 dX3_aloneTold_11 (by decide) (zle_NN (by omega) (by omega)) (fun h9 => absurd h9 (by omega)) (fun c_11 => ?_)
      refine z_aload_n C dX3_aloneTold_14 0 rfl ?_
      refine z_iload C dX3_aloneTold_15 4 rfl ?_
      refine z_callV C (c_X3_isCounted l g q th a la pe ga sz ha i (by omega)) (cwV 1 C.ts gX3_aloneTold_X3_isCounted rfl rfl rfl (by decide +kernel) ⟨Nat.le_of_ble_eq_true rfl, Nat.le_of_ble_eq_true rfl⟩) wM_o rfl rfl rfl (Nat.le_of_ble_eq_true rfl) dX3_aloneTold_17 ⟨Nat.zero_le _, Nat.zero_le _⟩ (z_i ?_)
      refine z_if_eq C 60 dX3_aloneTold_20 (by decide) (zeq_B0 _) (fun c_20 => ?_) (fun c_20 => ?_)
      · skip
        refine z_iinc C dX3_aloneTold_60 4 (nI (i + 1)) rfl (nI_add i 1) (by decide) [(4, .int (nI (i + 1))), (0, .ref (q 0)), (1, .int (nI f)), (2, .int (nI 1)), (3, .int (iZ (zHi a (zCo a f (-1)) i)))] rfl ?_
        refine z_goto C 5 dX3_aloneTold_63 (by decide) ?_
        refine zW.pick (lv' := [(0, .ref (q 0)), (1, .int (nI f)), (2, .int (nI 1)), (3, .int (iZ (zHi a (zCo a f (-1)) i))), (4, .int (nI (i + 1)))]) [1, 2, 3, 4, 0] rfl ?_
        refine zW.lve (lv' := [(0, .ref (q 0)), (1, .int (nI f)), (2, .int (nI 1)), (3, .int (iZ (zHi a (zCo a f (-1)) (i + 1)))), (4, .int (nI (i + 1)))]) (by first | (simp_all [zHi, zCo, iZ_n]; done) | (simp_all [zHi, zCo, iZ_n]; rw [if_neg (by omega)]; rfl)) ?_
        exact ih5 (i + 1) (by omega)
      · skip
        refine z_aload_n C dX3_aloneTold_23 0 rfl ?_
        refine z_iload C dX3_aloneTold_24 4 rfl ?_
        refine z_iconst C (nI 1) dX3_aloneTold_26 (by decide) ?_
        refine z_callV C (c_X3_bi_1 l g q th a la pe ga sz i (by omega)) (cwV 2 C.ts gX3_aloneTold_X3_bi rfl rfl rfl (by decide +kernel) ⟨Nat.le_of_ble_eq_true rfl, Nat.le_of_ble_eq_true rfl⟩) wM_o rfl rfl rfl (Nat.le_of_ble_eq_true rfl) dX3_aloneTold_27 ⟨Nat.zero_le _, Nat.zero_le _⟩ (z_i ?_)
        have f_27 := ha.bu8 (b := i) (by omega)
        refine z_iconst C (nI 1) dX3_aloneTold_30 (by decide) ?_
        refine z_iload_n C dX3_aloneTold_31 1 rfl ?_
        refine z_ishl C dX3_aloneTold_32 (v := nI (2 ^ f)) (zshl_1N (by omega)) ?_
        refine z_icmp_ne C 60 dX3_aloneTold_33 (by decide) (zeq_NN (by omega) (by omega)) (fun c_33 => ?_) (fun c_33 => ?_)
        · skip
          refine z_iinc C dX3_aloneTold_60 4 (nI (i + 1)) rfl (nI_add i 1) (by decide) [(4, .int (nI (i + 1))), (0, .ref (q 0)), (1, .int (nI f)), (2, .int (nI 1)), (3, .int (iZ (zHi a (zCo a f (-1)) i)))] rfl ?_
          refine z_goto C 5 dX3_aloneTold_63 (by decide) ?_
          refine zW.pick (lv' := [(0, .ref (q 0)), (1, .int (nI f)), (2, .int (nI 1)), (3, .int (iZ (zHi a (zCo a f (-1)) i))), (4, .int (nI (i + 1)))]) [1, 2, 3, 4, 0] rfl ?_
          refine zW.lve (lv' := [(0, .ref (q 0)), (1, .int (nI f)), (2, .int (nI 1)), (3, .int (iZ (zHi a (zCo a f (-1)) (i + 1)))), (4, .int (nI (i + 1)))]) (by first | (simp_all [zHi, zCo, iZ_n]; done) | (simp_all [zHi, zCo, iZ_n]; rw [if_neg (by omega)]; rfl)) ?_
          exact ih5 (i + 1) (by omega)
        · skip
          refine z_iload_n C dX3_aloneTold_36 3 rfl ?_
          refine z_iconst C (iZ (-1)) dX3_aloneTold_37 (by decide) ?_
          refine z_icmp_eq C 57 dX3_aloneTold_38 (by decide) (zeq_ZZ (x := (zHi a (zCo a f (-1)) i)) (y := (-1)) (by unfold zB31; omega) (by unfold zB31; omega)) (fun c_38 => ?_) (fun c_38 => ?_)
          · skip
            refine z_iload C dX3_aloneTold_57 4 rfl ?_
            refine z_istore_n C dX3_aloneTold_59 (by decide) [(3, .int (nI i)), (0, .ref (q 0)), (1, .int (nI f)), (2, .int (nI 1)), (4, .int (nI i))] rfl ?_
            refine z_iinc C dX3_aloneTold_60 4 (nI (i + 1)) rfl (nI_add i 1) (by decide) [(4, .int (nI (i + 1))), (3, .int (nI i)), (0, .ref (q 0)), (1, .int (nI f)), (2, .int (nI 1))] rfl ?_
            refine z_goto C 5 dX3_aloneTold_63 (by decide) ?_
            refine zW.pick (lv' := [(0, .ref (q 0)), (1, .int (nI f)), (2, .int (nI 1)), (3, .int (nI i)), (4, .int (nI (i + 1)))]) [2, 3, 4, 1, 0] rfl ?_
            refine zW.lve (lv' := [(0, .ref (q 0)), (1, .int (nI f)), (2, .int (nI 1)), (3, .int (iZ (zHi a (zCo a f (-1)) (i + 1)))), (4, .int (nI (i + 1)))]) (by first | (simp_all [zHi, zCo, iZ_n]; done) | (simp_all [zHi, zCo, iZ_n]; rw [if_neg (by omega)]; rfl)) ?_
            exact ih5 (i + 1) (by omega)
          · skip
            obtain ⟨c, hc, hce, -⟩ := (zHi_or a (zCo a f (-1)) i).resolve_left c_38
            refine z_aload_n C dX3_aloneTold_41 0 rfl ?_
            refine z_iload C dX3_aloneTold_42 4 rfl ?_
            refine z_iconst C (nI 2) dX3_aloneTold_44 (by decide) ?_
            refine z_callV C (c_X3_bi_2 l g q th a la pe ga sz i (by omega)) (cwV 2 C.ts gX3_aloneTold_X3_bi rfl rfl rfl (by decide +kernel) ⟨Nat.le_of_ble_eq_true rfl, Nat.le_of_ble_eq_true rfl⟩) wM_o rfl rfl rfl (Nat.le_of_ble_eq_true rfl) dX3_aloneTold_45 ⟨Nat.zero_le _, Nat.zero_le _⟩ (z_i ?_)
            have f_45 := ha.pr (b := i) (by omega)
            refine z_aload_n C dX3_aloneTold_48 0 rfl ?_
            refine z_iload_n C dX3_aloneTold_49 3 rfl ?_
            refine zW.top (y := nI c) (by rw [hce]; rfl) ?_
            refine z_iconst C (nI 2) dX3_aloneTold_50 (by decide) ?_
            refine z_callV C (c_X3_bi_2 l g q th a la pe ga sz c (by omega)) (cwV 2 C.ts gX3_aloneTold_X3_bi rfl rfl rfl (by decide +kernel) ⟨Nat.le_of_ble_eq_true rfl, Nat.le_of_ble_eq_true rfl⟩) wM_o rfl rfl rfl (Nat.le_of_ble_eq_true rfl) dX3_aloneTold_51 ⟨Nat.zero_le _, Nat.zero_le _⟩ (z_i ?_)
            have f_51 := ha.pr (b := c) (by omega)
            refine z_icmp_le C 60 dX3_aloneTold_54 (by decide) (zle_NN (by omega) (by omega)) (fun c_54 => ?_) (fun c_54 => ?_)
            · skip
              refine z_iinc C dX3_aloneTold_60 4 (nI (i + 1)) rfl (nI_add i 1) (by decide) [(4, .int (nI (i + 1))), (0, .ref (q 0)), (1, .int (nI f)), (2, .int (nI 1)), (3, .int (iZ (zHi a (zCo a f (-1)) i)))] rfl ?_
              refine z_goto C 5 dX3_aloneTold_63 (by decide) ?_
              refine zW.pick (lv' := [(0, .ref (q 0)), (1, .int (nI f)), (2, .int (nI 1)), (3, .int (iZ (zHi a (zCo a f (-1)) i))), (4, .int (nI (i + 1)))]) [1, 2, 3, 4, 0] rfl ?_
              refine zW.lve (lv' := [(0, .ref (q 0)), (1, .int (nI f)), (2, .int (nI 1)), (3, .int (iZ (zHi a (zCo a f (-1)) (i + 1)))), (4, .int (nI (i + 1)))]) (by first | (simp_all [zHi, zCo, iZ_n]; done) | (simp_all [zHi, zCo, iZ_n]; rw [if_neg (by omega)]; rfl)) ?_
              exact ih5 (i + 1) (by omega)
            · skip
              refine z_iload C dX3_aloneTold_57 4 rfl ?_
              refine z_istore_n C dX3_aloneTold_59 (by decide) [(3, .int (nI i)), (0, .ref (q 0)), (1, .int (nI f)), (2, .int (nI 1)), (4, .int (nI i))] rfl ?_
              refine z_iinc C dX3_aloneTold_60 4 (nI (i + 1)) rfl (nI_add i 1) (by decide) [(4, .int (nI (i + 1))), (3, .int (nI i)), (0, .ref (q 0)), (1, .int (nI f)), (2, .int (nI 1))] rfl ?_
              refine z_goto C 5 dX3_aloneTold_63 (by decide) ?_
              refine zW.pick (lv' := [(0, .ref (q 0)), (1, .int (nI f)), (2, .int (nI 1)), (3, .int (nI i)), (4, .int (nI (i + 1)))]) [2, 3, 4, 1, 0] rfl ?_
              refine zW.lve (lv' := [(0, .ref (q 0)), (1, .int (nI f)), (2, .int (nI 1)), (3, .int (iZ (zHi a (zCo a f (-1)) (i + 1)))), (4, .int (nI (i + 1)))]) (by first | (simp_all [zHi, zCo, iZ_n]; done) | (simp_all [zHi, zCo, iZ_n]; rw [if_neg (by omega)]; rfl)) ?_
              exact ih5 (i + 1) (by omega)
  exact hlp5 (zNb a) 0 (by omega)
set_option maxRecDepth 100000 in
set_option maxHeartbeats 4000000 in
theorem c_X3_aloneTold_2 (l : Launch) (g : zG) (q : Nat → Nat) (th : Int) (a : zS) (la : Nat → Int) (pe : Nat → Nat) (ga : Nat → Int) (sz : Nat → Nat) (ha : zOk a) (h0 : zM0 la pe) (f : Nat) (hf : f < zNf a) : zM g l yX3_aloneTold wsX3_aloneTold { frames := 4, cells := 0, slots := 0, locals := 86 } [.ref (q 0), .int (nI f), .int (nI 2)] (wM g q th a la pe ga sz) (zPie (iZ (aAlone a f 2)) (zMw g q th a)) 0 0 := by
  refine zM.of (cc := cX3_aloneTold) (nL := 6) (ret := (some .int)) (lv := [(0, .ref (q 0)), (1, .int (nI f)), (2, .int (nI 2))]) (by decide) rfl (Nat.le_of_ble_eq_true rfl) rfl ?_
  intro E C0 hi
  have C : zC g E cX3_aloneTold RX3 wsX3_aloneTold 6 (some .int) := C0
  obtain ⟨hnf, hnd, hnb, hou, hrs, hbd⟩ := id ha
  have p8 : 2 ^ f ≤ 2 ^ 8 := zp2_le (by omega)
  refine z_iconst C (iZ (-1)) dX3_aloneTold_0 (by decide) ?_
  refine z_istore_n C dX3_aloneTold_1 (by decide) [(3, .int (iZ (-1))), (0, .ref (q 0)), (1, .int (nI f)), (2, .int (nI 2))] rfl ?_
  refine z_iconst C (nI 0) dX3_aloneTold_2 (by decide) ?_
  refine z_istore C dX3_aloneTold_3 (by decide) [(4, .int (nI 0)), (3, .int (iZ (-1))), (0, .ref (q 0)), (1, .int (nI f)), (2, .int (nI 2))] rfl ?_
  refine zW.pick (lv' := [(0, .ref (q 0)), (1, .int (nI f)), (2, .int (nI 2)), (3, .int (iZ (-1))), (4, .int (nI 0))]) [2, 3, 4, 1, 0] rfl ?_
  have hlp5 : ∀ (k i : Nat), i + k = zNb a → zW g l ({ frames := 4, cells := 0, slots := 0, locals := 86 }) E (zMQ g E (zPie (iZ (aAlone a f 2)) (zMw g q th a)) 0 0) 6 0 0 (wM g q th a la pe ga sz) [(0, .ref (q 0)), (1, .int (nI f)), (2, .int (nI 2)), (3, .int (iZ (zHi a (zCo a f (-1)) i))), (4, .int (nI i))] [] 5 := by
    intro k
    induction k with
    | zero =>
      intro i hik
      refine z_iload C dX3_aloneTold_5 4 rfl ?_
      refine z_aload_n C dX3_aloneTold_7 0 rfl ?_
      refine z_get C inX3_aloneTold_X3 0 wM_o rfl 3 (by decide) (C.w 1 rfl) rfl dX3_aloneTold_8 ?_
      refine z_icmp_ge C 66 dX3_aloneTold_11 (by decide) (zle_NN (by omega) (by omega)) (fun c_11 => ?_) (fun h9 => absurd (by omega) h9)
      have hi9 : i = zNb a := by omega
      subst hi9
      rcases zHi_or a (zCo a f (-1)) (zNb a) with hwn | ⟨c, hc, hwn, -⟩
      · skip
        rw [hwn]
        have hwn : aHi a f (-1) = -1 := hwn
        refine z_iload_n C dX3_aloneTold_66 3 rfl ?_
        refine z_iconst C (iZ (-1)) dX3_aloneTold_67 (by decide) ?_
        refine z_icmp_eq C 75 dX3_aloneTold_68 (by decide) (zeq_ZZ (x := (-1)) (y := (-1)) (by unfold zB31; omega) (by unfold zB31; omega)) (fun c_68 => ?_) (fun h9 => absurd (by decide) h9)
        refine z_iload_n C dX3_aloneTold_75 3 rfl ?_
        exact z_iretE C dX3_aloneTold_76 (by unfold aAlone; rw [if_pos hwn]) ⟨_, _, _, _, rfl, h0⟩
      · skip
        rw [hwn]
        have hwn : aHi a f (-1) = (c : Int) := hwn
        refine z_iload_n C dX3_aloneTold_66 3 rfl ?_
        refine z_iconst C (iZ (-1)) dX3_aloneTold_67 (by decide) ?_
        refine z_icmp_eq C 75 dX3_aloneTold_68 (by decide) (zeq_ZZ (x := ((c : Nat) : Int)) (y := (-1)) (by unfold zB31; omega) (by unfold zB31; omega)) (fun h9 => absurd h9 (by omega)) (fun c_68 => ?_)
        refine z_iload_n C dX3_aloneTold_71 2 rfl ?_
        refine z_if_ne C 77 dX3_aloneTold_72 (by decide) (zeq_N0 (by omega)) (fun c_72 => ?_) (fun h9 => absurd h9 (by decide))
        refine z_iload_n C dX3_aloneTold_77 2 rfl ?_
        refine z_iconst C (nI 1) dX3_aloneTold_78 (by decide) ?_
        refine z_icmp_ne C 89 dX3_aloneTold_79 (by decide) (zeq_NN (by omega) (by omega)) (fun c_79 => ?_) (fun h9 => absurd h9 (by decide))
        refine z_aload_n C dX3_aloneTold_89 0 rfl ?_
        refine z_get C inX3_aloneTold_X3 0 wM_o rfl 5 (by decide) (C.w 2 rfl) rfl dX3_aloneTold_90 ?_
        refine z_iload_n C dX3_aloneTold_93 1 rfl ?_
        refine z_ialdN C 1 wM_rs (by omega) (by decide) dX3_aloneTold_94 (v := nI (zRs a f)) rfl ?_
        have f_94b := (ha.rs (f := f) (by omega))
        refine z_istore C dX3_aloneTold_95 (by decide) [(4, .int (nI (zRs a f))), (0, .ref (q 0)), (1, .int (nI f)), (2, .int (nI 2)), (3, .int (nI c))] rfl ?_
        refine z_iconst C (nI 0) dX3_aloneTold_97 (by decide) ?_
        refine z_istore C dX3_aloneTold_98 (by decide) [(5, .int (nI 0)), (4, .int (nI (zRs a f))), (0, .ref (q 0)), (1, .int (nI f)), (2, .int (nI 2)), (3, .int (nI c))] rfl ?_
        refine zW.pick (lv' := [(0, .ref (q 0)), (1, .int (nI f)), (2, .int (nI 2)), (3, .int (nI c)), (4, .int (nI (zRs a f))), (5, .int (nI 0))]) [2, 3, 4, 5, 1, 0] rfl ?_
        have hlp100 : ∀ (kj j : Nat), j + kj = zNb a → zW g l ({ frames := 4, cells := 0, slots := 0, locals := 86 }) E (zMQ g E (zPie (iZ (aAlone a f 2)) (zMw g q th a)) 0 0) 6 0 0 (wM g q th a la pe ga sz) [(0, .ref (q 0)), (1, .int (nI f)), (2, .int (nI 2)), (3, .int (nI c)), (4, .int (nI (mMx a f (zCo a f ((zOw a c : Nat) : Int)) j))), (5, .int (nI j))] [] 100 := by
          intro kj
          induction kj with
          | zero =>
            intro j hjk
            refine z_iload C dX3_aloneTold_100 5 rfl ?_
            refine z_aload_n C dX3_aloneTold_102 0 rfl ?_
            refine z_get C inX3_aloneTold_X3 0 wM_o rfl 3 (by decide) (C.w 1 rfl) rfl dX3_aloneTold_103 ?_
            refine z_icmp_ge C 167 dX3_aloneTold_106 (by decide) (zle_NN (by omega) (by omega)) (fun c_106 => ?_) (fun h9 => absurd (by omega) h9)
            refine z_iload C dX3_aloneTold_167 4 rfl ?_
            exact z_iretE C dX3_aloneTold_169 (by unfold aAlone; rw [hwn, if_neg (by omega), show j = zNb a by omega]; exact congrArg iZ (mMx_eq (fun b hb => zCo_ge hf hb) (zNb a))) ⟨_, _, _, _, rfl, h0⟩
          | succ kj ih100 =>
            intro j hjk
            have hmb : mMx a f (zCo a f ((zOw a c : Nat) : Int)) j ≤ 999 := mMx_le ha hf (by omega)
            refine z_iload C dX3_aloneTold_100 5 rfl ?_
            refine z_aload_n C dX3_aloneTold_102 0 rfl ?_
            refine z_get C inX3_aloneTold_X3 0 wM_o rfl 3 (by decide) (C.w 1 rfl) rfl dX3_aloneTold_103 ?_
            refine z_icmp_ge C 167 dX3_aloneTold_106 (by decide) (zle_NN (by omega) (by omega)) (fun h9 => absurd h9 (by omega)) (fun c_106 => ?_)
            refine z_aload_n C dX3_aloneTold_109 0 rfl ?_
            refine z_iload C dX3_aloneTold_110 5 rfl ?_
            refine z_callV C (c_X3_isCounted l g q th a la pe ga sz ha j (by omega)) (cwV 1 C.ts gX3_aloneTold_X3_isCounted rfl rfl rfl (by decide +kernel) ⟨Nat.le_of_ble_eq_true rfl, Nat.le_of_ble_eq_true rfl⟩) wM_o rfl rfl rfl (Nat.le_of_ble_eq_true rfl) dX3_aloneTold_112 ⟨Nat.zero_le _, Nat.zero_le _⟩ (z_i ?_)
            refine z_if_eq C 161 dX3_aloneTold_115 (by decide) (zeq_B0 _) (fun c_115 => ?_) (fun c_115 => ?_)
            · skip
              refine z_iinc C dX3_aloneTold_161 5 (nI (j + 1)) rfl (nI_add j 1) (by decide) [(5, .int (nI (j + 1))), (0, .ref (q 0)), (1, .int (nI f)), (2, .int (nI 2)), (3, .int (nI c)), (4, .int (nI (mMx a f (zCo a f ((zOw a c : Nat) : Int)) j)))] rfl ?_
              refine z_goto C 100 dX3_aloneTold_164 (by decide) ?_
              refine zW.pick (lv' := [(0, .ref (q 0)), (1, .int (nI f)), (2, .int (nI 2)), (3, .int (nI c)), (4, .int (nI (mMx a f (zCo a f ((zOw a c : Nat) : Int)) j))), (5, .int (nI (j + 1)))]) [1, 2, 3, 4, 5, 0] rfl ?_
              refine zW.lve (lv' := [(0, .ref (q 0)), (1, .int (nI f)), (2, .int (nI 2)), (3, .int (nI c)), (4, .int (nI (mMx a f (zCo a f ((zOw a c : Nat) : Int)) (j + 1)))), (5, .int (nI (j + 1)))]) (by first | (simp_all [mMx, zCo]; done) | (simp_all [mMx, zCo]; rw [if_neg (by omega)])) ?_
              exact ih100 (j + 1) (by omega)
            · skip
              refine z_aload_n C dX3_aloneTold_118 0 rfl ?_
              refine z_iload C dX3_aloneTold_119 5 rfl ?_
              refine z_iconst C (nI 1) dX3_aloneTold_121 (by decide) ?_
              refine z_callV C (c_X3_bi_1 l g q th a la pe ga sz j (by omega)) (cwV 2 C.ts gX3_aloneTold_X3_bi rfl rfl rfl (by decide +kernel) ⟨Nat.le_of_ble_eq_true rfl, Nat.le_of_ble_eq_true rfl⟩) wM_o rfl rfl rfl (Nat.le_of_ble_eq_true rfl) dX3_aloneTold_122 ⟨Nat.zero_le _, Nat.zero_le _⟩ (z_i ?_)
              have f_122 := ha.bu8 (b := j) (by omega)
              refine z_iconst C (nI 1) dX3_aloneTold_125 (by decide) ?_
              refine z_iload_n C dX3_aloneTold_126 1 rfl ?_
              refine z_ishl C dX3_aloneTold_127 (v := nI (2 ^ f)) (zshl_1N (by omega)) ?_
              refine z_icmp_ne C 161 dX3_aloneTold_128 (by decide) (zeq_NN (by omega) (by omega)) (fun c_128 => ?_) (fun c_128 => ?_)
              · skip
                refine z_iinc C dX3_aloneTold_161 5 (nI (j + 1)) rfl (nI_add j 1) (by decide) [(5, .int (nI (j + 1))), (0, .ref (q 0)), (1, .int (nI f)), (2, .int (nI 2)), (3, .int (nI c)), (4, .int (nI (mMx a f (zCo a f ((zOw a c : Nat) : Int)) j)))] rfl ?_
                refine z_goto C 100 dX3_aloneTold_164 (by decide) ?_
                refine zW.pick (lv' := [(0, .ref (q 0)), (1, .int (nI f)), (2, .int (nI 2)), (3, .int (nI c)), (4, .int (nI (mMx a f (zCo a f ((zOw a c : Nat) : Int)) j))), (5, .int (nI (j + 1)))]) [1, 2, 3, 4, 5, 0] rfl ?_
                refine zW.lve (lv' := [(0, .ref (q 0)), (1, .int (nI f)), (2, .int (nI 2)), (3, .int (nI c)), (4, .int (nI (mMx a f (zCo a f ((zOw a c : Nat) : Int)) (j + 1)))), (5, .int (nI (j + 1)))]) (by first | (simp_all [mMx, zCo]; done) | (simp_all [mMx, zCo]; rw [if_neg (by omega)])) ?_
                exact ih100 (j + 1) (by omega)
              · skip
                refine z_aload_n C dX3_aloneTold_131 0 rfl ?_
                refine z_iload C dX3_aloneTold_132 5 rfl ?_
                refine z_iconst C (nI 0) dX3_aloneTold_134 (by decide) ?_
                refine z_callV C (c_X3_bi_0 l g q th a la pe ga sz j (by omega)) (cwV 2 C.ts gX3_aloneTold_X3_bi rfl rfl rfl (by decide +kernel) ⟨Nat.le_of_ble_eq_true rfl, Nat.le_of_ble_eq_true rfl⟩) wM_o rfl rfl rfl (Nat.le_of_ble_eq_true rfl) dX3_aloneTold_135 ⟨Nat.zero_le _, Nat.zero_le _⟩ (z_i ?_)
                have f_135 := ha.ow (b := j) (by omega)
                refine z_aload_n C dX3_aloneTold_138 0 rfl ?_
                refine z_iload_n C dX3_aloneTold_139 3 rfl ?_
                refine z_iconst C (nI 0) dX3_aloneTold_140 (by decide) ?_
                refine z_callV C (c_X3_bi_0 l g q th a la pe ga sz c (by omega)) (cwV 2 C.ts gX3_aloneTold_X3_bi rfl rfl rfl (by decide +kernel) ⟨Nat.le_of_ble_eq_true rfl, Nat.le_of_ble_eq_true rfl⟩) wM_o rfl rfl rfl (Nat.le_of_ble_eq_true rfl) dX3_aloneTold_141 ⟨Nat.zero_le _, Nat.zero_le _⟩ (z_i ?_)
                have f_141 := ha.ow (b := c) (by omega)
                refine z_icmp_eq C 161 dX3_aloneTold_144 (by decide) (zeq_NN (by omega) (by omega)) (fun c_144 => ?_) (fun c_144 => ?_)
                · skip
                  refine z_iinc C dX3_aloneTold_161 5 (nI (j + 1)) rfl (nI_add j 1) (by decide) [(5, .int (nI (j + 1))), (0, .ref (q 0)), (1, .int (nI f)), (2, .int (nI 2)), (3, .int (nI c)), (4, .int (nI (mMx a f (zCo a f ((zOw a c : Nat) : Int)) j)))] rfl ?_
                  refine z_goto C 100 dX3_aloneTold_164 (by decide) ?_
                  refine zW.pick (lv' := [(0, .ref (q 0)), (1, .int (nI f)), (2, .int (nI 2)), (3, .int (nI c)), (4, .int (nI (mMx a f (zCo a f ((zOw a c : Nat) : Int)) j))), (5, .int (nI (j + 1)))]) [1, 2, 3, 4, 5, 0] rfl ?_
                  refine zW.lve (lv' := [(0, .ref (q 0)), (1, .int (nI f)), (2, .int (nI 2)), (3, .int (nI c)), (4, .int (nI (mMx a f (zCo a f ((zOw a c : Nat) : Int)) (j + 1)))), (5, .int (nI (j + 1)))]) (by first | (simp_all [mMx, zCo]; done) | (simp_all [mMx, zCo]; rw [if_neg (by omega)])) ?_
                  exact ih100 (j + 1) (by omega)
                · skip
                  refine z_iload C dX3_aloneTold_147 4 rfl ?_
                  refine z_aload_n C dX3_aloneTold_149 0 rfl ?_
                  refine z_iload C dX3_aloneTold_150 5 rfl ?_
                  refine z_iconst C (nI 2) dX3_aloneTold_152 (by decide) ?_
                  refine z_callV C (c_X3_bi_2 l g q th a la pe ga sz j (by omega)) (cwV 2 C.ts gX3_aloneTold_X3_bi rfl rfl rfl (by decide +kernel) ⟨Nat.le_of_ble_eq_true rfl, Nat.le_of_ble_eq_true rfl⟩) wM_o rfl rfl rfl (Nat.le_of_ble_eq_true rfl) dX3_aloneTold_153 ⟨Nat.zero_le _, Nat.zero_le _⟩ (z_i ?_)
                  have f_153 := ha.pr (b := j) (by omega)
                  refine z_mmax C (C.w 3 rfl) (C.w 4 rfl) (C.w 5 rfl) (C.w 6 rfl) (by decide) (Nat.le_of_ble_eq_true rfl) (Nat.zero_le _) (Nat.zero_le _) dX3_aloneTold_156 (v := nI (max (mMx a f (zCo a f ((zOw a c : Nat) : Int)) j) (zPr a j))) (zmax_NN (by omega) (by omega)) ?_
                  refine z_istore C dX3_aloneTold_159 (by decide) [(4, .int (nI (max (mMx a f (zCo a f ((zOw a c : Nat) : Int)) j) (zPr a j)))), (0, .ref (q 0)), (1, .int (nI f)), (2, .int (nI 2)), (3, .int (nI c)), (5, .int (nI j))] rfl ?_
                  refine z_iinc C dX3_aloneTold_161 5 (nI (j + 1)) rfl (nI_add j 1) (by decide) [(5, .int (nI (j + 1))), (4, .int (nI (max (mMx a f (zCo a f ((zOw a c : Nat) : Int)) j) (zPr a j)))), (0, .ref (q 0)), (1, .int (nI f)), (2, .int (nI 2)), (3, .int (nI c))] rfl ?_
                  refine z_goto C 100 dX3_aloneTold_164 (by decide) ?_
                  refine zW.pick (lv' := [(0, .ref (q 0)), (1, .int (nI f)), (2, .int (nI 2)), (3, .int (nI c)), (4, .int (nI (max (mMx a f (zCo a f ((zOw a c : Nat) : Int)) j) (zPr a j)))), (5, .int (nI (j + 1)))]) [2, 3, 4, 5, 1, 0] rfl ?_
                  refine zW.lve (lv' := [(0, .ref (q 0)), (1, .int (nI f)), (2, .int (nI 2)), (3, .int (nI c)), (4, .int (nI (mMx a f (zCo a f ((zOw a c : Nat) : Int)) (j + 1)))), (5, .int (nI (j + 1)))]) (by first | (simp_all [mMx, zCo]; done) | (simp_all [mMx, zCo]; rw [if_neg (by omega)])) ?_
                  exact ih100 (j + 1) (by omega)
        exact hlp100 (zNb a) 0 (by omega)
    | succ k ih5 =>
      intro i hik
      have hH : -1 ≤ zHi a (zCo a f (-1)) i ∧ zHi a (zCo a f (-1)) i < 12 := by rcases zHi_or a (zCo a f (-1)) i with h | ⟨c, h1, h2, -⟩ <;> omega
      have how1 : ¬ ((zOw a i : Nat) : Int) = -1 := by omega
      refine z_iload C dX3_aloneTold_5 4 rfl ?_
      refine z_aload_n C dX3_aloneTold_7 0 rfl ?_
      refine z_get C inX3_aloneTold_X3 0 wM_o rfl 3 (by decide) (C.w 1 rfl) rfl dX3_aloneTold_8 ?_
      refine z_icmp_ge C 66 dX3_aloneTold_11 (by decide) (zle_NN (by omega) (by omega)) (fun h9 => absurd h9 (by omega)) (fun c_11 => ?_)
      refine z_aload_n C dX3_aloneTold_14 0 rfl ?_
      refine z_iload C dX3_aloneTold_15 4 rfl ?_
      refine z_callV C (c_X3_isCounted l g q th a la pe ga sz ha i (by omega)) (cwV 1 C.ts gX3_aloneTold_X3_isCounted rfl rfl rfl (by decide +kernel) ⟨Nat.le_of_ble_eq_true rfl, Nat.le_of_ble_eq_true rfl⟩) wM_o rfl rfl rfl (Nat.le_of_ble_eq_true rfl) dX3_aloneTold_17 ⟨Nat.zero_le _, Nat.zero_le _⟩ (z_i ?_)
      refine z_if_eq C 60 dX3_aloneTold_20 (by decide) (zeq_B0 _) (fun c_20 => ?_) (fun c_20 => ?_)
      · skip
        refine z_iinc C dX3_aloneTold_60 4 (nI (i + 1)) rfl (nI_add i 1) (by decide) [(4, .int (nI (i + 1))), (0, .ref (q 0)), (1, .int (nI f)), (2, .int (nI 2)), (3, .int (iZ (zHi a (zCo a f (-1)) i)))] rfl ?_
        refine z_goto C 5 dX3_aloneTold_63 (by decide) ?_
        refine zW.pick (lv' := [(0, .ref (q 0)), (1, .int (nI f)), (2, .int (nI 2)), (3, .int (iZ (zHi a (zCo a f (-1)) i))), (4, .int (nI (i + 1)))]) [1, 2, 3, 4, 0] rfl ?_
        refine zW.lve (lv' := [(0, .ref (q 0)), (1, .int (nI f)), (2, .int (nI 2)), (3, .int (iZ (zHi a (zCo a f (-1)) (i + 1)))), (4, .int (nI (i + 1)))]) (by first | (simp_all [zHi, zCo, iZ_n]; done) | (simp_all [zHi, zCo, iZ_n]; rw [if_neg (by omega)]; rfl)) ?_
        exact ih5 (i + 1) (by omega)
      · skip
        refine z_aload_n C dX3_aloneTold_23 0 rfl ?_
        refine z_iload C dX3_aloneTold_24 4 rfl ?_
        refine z_iconst C (nI 1) dX3_aloneTold_26 (by decide) ?_
        refine z_callV C (c_X3_bi_1 l g q th a la pe ga sz i (by omega)) (cwV 2 C.ts gX3_aloneTold_X3_bi rfl rfl rfl (by decide +kernel) ⟨Nat.le_of_ble_eq_true rfl, Nat.le_of_ble_eq_true rfl⟩) wM_o rfl rfl rfl (Nat.le_of_ble_eq_true rfl) dX3_aloneTold_27 ⟨Nat.zero_le _, Nat.zero_le _⟩ (z_i ?_)
        have f_27 := ha.bu8 (b := i) (by omega)
        refine z_iconst C (nI 1) dX3_aloneTold_30 (by decide) ?_
        refine z_iload_n C dX3_aloneTold_31 1 rfl ?_
        refine z_ishl C dX3_aloneTold_32 (v := nI (2 ^ f)) (zshl_1N (by omega)) ?_
        refine z_icmp_ne C 60 dX3_aloneTold_33 (by decide) (zeq_NN (by omega) (by omega)) (fun c_33 => ?_) (fun c_33 => ?_)
        · skip
          refine z_iinc C dX3_aloneTold_60 4 (nI (i + 1)) rfl (nI_add i 1) (by decide) [(4, .int (nI (i + 1))), (0, .ref (q 0)), (1, .int (nI f)), (2, .int (nI 2)), (3, .int (iZ (zHi a (zCo a f (-1)) i)))] rfl ?_
          refine z_goto C 5 dX3_aloneTold_63 (by decide) ?_
          refine zW.pick (lv' := [(0, .ref (q 0)), (1, .int (nI f)), (2, .int (nI 2)), (3, .int (iZ (zHi a (zCo a f (-1)) i))), (4, .int (nI (i + 1)))]) [1, 2, 3, 4, 0] rfl ?_
          refine zW.lve (lv' := [(0, .ref (q 0)), (1, .int (nI f)), (2, .int (nI 2)), (3, .int (iZ (zHi a (zCo a f (-1)) (i + 1)))), (4, .int (nI (i + 1)))]) (by first | (simp_all [zHi, zCo, iZ_n]; done) | (simp_all [zHi, zCo, iZ_n]; rw [if_neg (by omega)]; rfl)) ?_
          exact ih5 (i + 1) (by omega)
        · skip
          refine z_iload_n C dX3_aloneTold_36 3 rfl ?_
          refine z_iconst C (iZ (-1)) dX3_aloneTold_37 (by decide) ?_
          refine z_icmp_eq C 57 dX3_aloneTold_38 (by decide) (zeq_ZZ (x := (zHi a (zCo a f (-1)) i)) (y := (-1)) (by unfold zB31; omega) (by unfold zB31; omega)) (fun c_38 => ?_) (fun c_38 => ?_)
          · skip
            refine z_iload C dX3_aloneTold_57 4 rfl ?_
            refine z_istore_n C dX3_aloneTold_59 (by decide) [(3, .int (nI i)), (0, .ref (q 0)), (1, .int (nI f)), (2, .int (nI 2)), (4, .int (nI i))] rfl ?_
            refine z_iinc C dX3_aloneTold_60 4 (nI (i + 1)) rfl (nI_add i 1) (by decide) [(4, .int (nI (i + 1))), (3, .int (nI i)), (0, .ref (q 0)), (1, .int (nI f)), (2, .int (nI 2))] rfl ?_
            refine z_goto C 5 dX3_aloneTold_63 (by decide) ?_
            refine zW.pick (lv' := [(0, .ref (q 0)), (1, .int (nI f)), (2, .int (nI 2)), (3, .int (nI i)), (4, .int (nI (i + 1)))]) [2, 3, 4, 1, 0] rfl ?_
            refine zW.lve (lv' := [(0, .ref (q 0)), (1, .int (nI f)), (2, .int (nI 2)), (3, .int (iZ (zHi a (zCo a f (-1)) (i + 1)))), (4, .int (nI (i + 1)))]) (by first | (simp_all [zHi, zCo, iZ_n]; done) | (simp_all [zHi, zCo, iZ_n]; rw [if_neg (by omega)]; rfl)) ?_
            exact ih5 (i + 1) (by omega)
          · skip
            obtain ⟨c, hc, hce, -⟩ := (zHi_or a (zCo a f (-1)) i).resolve_left c_38
            refine z_aload_n C dX3_aloneTold_41 0 rfl ?_
            refine z_iload C dX3_aloneTold_42 4 rfl ?_
            refine z_iconst C (nI 2) dX3_aloneTold_44 (by decide) ?_
            refine z_callV C (c_X3_bi_2 l g q th a la pe ga sz i (by omega)) (cwV 2 C.ts gX3_aloneTold_X3_bi rfl rfl rfl (by decide +kernel) ⟨Nat.le_of_ble_eq_true rfl, Nat.le_of_ble_eq_true rfl⟩) wM_o rfl rfl rfl (Nat.le_of_ble_eq_true rfl) dX3_aloneTold_45 ⟨Nat.zero_le _, Nat.zero_le _⟩ (z_i ?_)
            have f_45 := ha.pr (b := i) (by omega)
            refine z_aload_n C dX3_aloneTold_48 0 rfl ?_
            refine z_iload_n C dX3_aloneTold_49 3 rfl ?_
            refine zW.top (y := nI c) (by rw [hce]; rfl) ?_
            refine z_iconst C (nI 2) dX3_aloneTold_50 (by decide) ?_
            refine z_callV C (c_X3_bi_2 l g q th a la pe ga sz c (by omega)) (cwV 2 C.ts gX3_aloneTold_X3_bi rfl rfl rfl (by decide +kernel) ⟨Nat.le_of_ble_eq_true rfl, Nat.le_of_ble_eq_true rfl⟩) wM_o rfl rfl rfl (Nat.le_of_ble_eq_true rfl) dX3_aloneTold_51 ⟨Nat.zero_le _, Nat.zero_le _⟩ (z_i ?_)
            have f_51 := ha.pr (b := c) (by omega)
            refine z_icmp_le C 60 dX3_aloneTold_54 (by decide) (zle_NN (by omega) (by omega)) (fun c_54 => ?_) (fun c_54 => ?_)
            · skip
              refine z_iinc C dX3_aloneTold_60 4 (nI (i + 1)) rfl (nI_add i 1) (by decide) [(4, .int (nI (i + 1))), (0, .ref (q 0)), (1, .int (nI f)), (2, .int (nI 2)), (3, .int (iZ (zHi a (zCo a f (-1)) i)))] rfl ?_
              refine z_goto C 5 dX3_aloneTold_63 (by decide) ?_
              refine zW.pick (lv' := [(0, .ref (q 0)), (1, .int (nI f)), (2, .int (nI 2)), (3, .int (iZ (zHi a (zCo a f (-1)) i))), (4, .int (nI (i + 1)))]) [1, 2, 3, 4, 0] rfl ?_
              refine zW.lve (lv' := [(0, .ref (q 0)), (1, .int (nI f)), (2, .int (nI 2)), (3, .int (iZ (zHi a (zCo a f (-1)) (i + 1)))), (4, .int (nI (i + 1)))]) (by first | (simp_all [zHi, zCo, iZ_n]; done) | (simp_all [zHi, zCo, iZ_n]; rw [if_neg (by omega)]; rfl)) ?_
              exact ih5 (i + 1) (by omega)
            · skip
              refine z_iload C dX3_aloneTold_57 4 rfl ?_
              refine z_istore_n C dX3_aloneTold_59 (by decide) [(3, .int (nI i)), (0, .ref (q 0)), (1, .int (nI f)), (2, .int (nI 2)), (4, .int (nI i))] rfl ?_
              refine z_iinc C dX3_aloneTold_60 4 (nI (i + 1)) rfl (nI_add i 1) (by decide) [(4, .int (nI (i + 1))), (3, .int (nI i)), (0, .ref (q 0)), (1, .int (nI f)), (2, .int (nI 2))] rfl ?_
              refine z_goto C 5 dX3_aloneTold_63 (by decide) ?_
              refine zW.pick (lv' := [(0, .ref (q 0)), (1, .int (nI f)), (2, .int (nI 2)), (3, .int (nI i)), (4, .int (nI (i + 1)))]) [2, 3, 4, 1, 0] rfl ?_
              refine zW.lve (lv' := [(0, .ref (q 0)), (1, .int (nI f)), (2, .int (nI 2)), (3, .int (iZ (zHi a (zCo a f (-1)) (i + 1)))), (4, .int (nI (i + 1)))]) (by first | (simp_all [zHi, zCo, iZ_n]; done) | (simp_all [zHi, zCo, iZ_n]; rw [if_neg (by omega)]; rfl)) ?_
              exact ih5 (i + 1) (by omega)
  exact hlp5 (zNb a) 0 (by omega)
theorem c_X3_aloneTold (l : Launch) (g : zG) (q : Nat → Nat) (th : Int) (a : zS) (la : Nat → Int) (pe : Nat → Nat) (ga : Nat → Int) (sz : Nat → Nat) (ha : zOk a) (h0 : zM0 la pe) (f : Nat) (w : Nat) (hf : f < zNf a) (hw : w ≤ 2) : zM g l yX3_aloneTold wsX3_aloneTold { frames := 4, cells := 0, slots := 0, locals := 86 } [.ref (q 0), .int (nI f), .int (nI w)] (wM g q th a la pe ga sz) (zPie (iZ (aAlone a f w)) (zMw g q th a)) 0 0 := by
  rcases (show w = 0 ∨ w = 1 ∨ w = 2 by omega) with rfl | rfl | rfl
  · exact c_X3_aloneTold_0 l g q th a la pe ga sz ha h0 f hf
  · exact c_X3_aloneTold_1 l g q th a la pe ga sz ha h0 f hf
  · exact c_X3_aloneTold_2 l g q th a la pe ga sz ha h0 f hf
