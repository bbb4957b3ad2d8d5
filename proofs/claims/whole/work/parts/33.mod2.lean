theorem mBU_s (a : zS) (n : Nat) : mBU a (n + 1) = if mFe a n 12 = true ∧ mBtr a n (mBU a n) = true then n else mBU a n := rfl
def mIv (a : zS) (la : Nat → Int) (pe : Nat → Nat) (ga : Nat → Int) (sz : Nat → Nat) (S : Nat) : Prop := ∀ n, n < S → la n = mLa a n ∧ pe n = mPe a n ∧ ga n = mGa a n ∧ sz n = zPop n 12
def zM0 (la : Nat → Int) (pe : Nat → Nat) : Prop := la 0 = 0 ∧ pe 0 = 0
def zMsP (g : zG) (q : Nat → Nat) (th : Int) (a : zS) : va_W → Prop := fun w' => ∃ (la : Nat → Int) (pe : Nat → Nat) (ga : Nat → Int) (sz : Nat → Nat), w' = wM g q th a la pe ga sz ∧ zM0 la pe ∧ ∀ n, n < 2 ^ zNb a → ga n = mGa a n ∧ sz n = zPop n 12
theorem mz0 (a : zS) : ∀ k, mLd a 0 k = 0 ∧ mPp a 0 k = 0 ∧ mGs a 0 k = 0 ∧ mFe a 0 k = true ∧ zPop 0 k = 0
  | 0 => ⟨rfl, rfl, rfl, rfl, rfl⟩
  | k + 1 => by
    obtain ⟨h1, h2, h3, h4, h5⟩ := mz0 a k
    rw [mLd_s, mPp_s, mGs_s, mFe_s, zPop_s, Nat.zero_testBit]
    exact ⟨h1, h2, h3, h4, h5⟩
theorem mIv_1 {a : zS} {la : Nat → Int} {pe : Nat → Nat} {ga : Nat → Int} {sz : Nat → Nat} (h : zM0 la pe) : mIv a la pe (va_up ga 0 0) (va_up sz 0 0) (2 ^ 0) := by
  intro n hn
  have e : n = 0 := by omega
  subst e
  obtain ⟨h1, h2, h3, h4, h5⟩ := mz0 a 12
  refine ⟨?_, ?_, ?_, ?_⟩
  · rw [h.1]; unfold mLa; rw [if_pos h4, h1]; rfl
  · rw [h.2]; exact h2.symm
  · rw [va_up_self]; exact h3.symm
  · rw [va_up_self]; exact h5.symm
theorem mIv_s {a : zS} {la : Nat → Int} {pe : Nat → Nat} {ga : Nat → Int} {sz : Nat → Nat} {S : Nat} {x : Int} {p : Nat} {y : Int} {z : Nat} (h : mIv a la pe ga sz S) (h1 : x = mLa a S) (h2 : p = mPe a S) (h3 : y = mGa a S) (h4 : z = zPop S 12) : mIv a (va_up la S x) (va_up pe S p) (va_up ga S y) (va_up sz S z) (S + 1) := by
  intro n hn
  by_cases e : n = S
  · subst e
    rw [va_up_self, va_up_self, va_up_self, va_up_self]
    exact ⟨h1, h2, h3, h4⟩
  · rw [va_up_ne _ _ e, va_up_ne _ _ e, va_up_ne _ _ e, va_up_ne _ _ e]
    exact h n (by omega)
theorem zM0_s {la : Nat → Int} {pe : Nat → Nat} {S : Nat} {x : Int} {p : Nat} (h : zM0 la pe) (hS : 0 < S) : zM0 (va_up la S x) (va_up pe S p) := by
  unfold zM0
  rw [va_up_ne _ _ (by omega), va_up_ne _ _ (by omega)]
  exact h
theorem inX3_sale_X3 : ∀ w ∈ wsX30, w ∈ wsX3_sale := fun w h => List.mem_cons_of_mem _ (List.mem_append_right _ (h))
set_option maxRecDepth 100000 in
set_option maxHeartbeats 4000000 in
theorem c_X3_sale (l : Launch) (g : zG) (q : Nat → Nat) (th : Int) (a : zS) (la : Nat → Int) (pe : Nat → Nat) (ga : Nat → Int) (sz : Nat → Nat) (ha : zOk a) (h0 : zM0 la pe) : zM g l yX3_sale wsX3_sale { frames := 4, cells := 0, slots := 0, locals := 86 } [.ref (q 0)] (wM g q th a la pe ga sz) (zPie (nI (mBest a)) (zMsP g q th a)) 0 0 := by
  refine zM.of (cc := cX3_sale) (nL := 8) (ret := (some .int)) (lv := [(0, .ref (q 0))]) (by decide) rfl (Nat.le_of_ble_eq_true rfl) rfl ?_
  intro E C0 hi
  have C : zC g E cX3_sale RX3 wsX3_sale 8 (some .int) := C0
  obtain ⟨hnf, hnd, hnb, hou, hrs, hbd⟩ := id ha
  refine z_iconst C (nI 0) dX3_sale_0 (by decide) ?_
  refine z_istore_n C dX3_sale_1 (by decide) [(1, .int (nI 0)), (0, .ref (q 0))] rfl ?_
  refine z_aload_n C dX3_sale_2 1 rfl ?_
  refine z_get C inX3_sale_X3 0 wM_o rfl 9 (by decide) (C.w 1 rfl) rfl dX3_sale_3 ?_
  refine z_iconst C (nI 0) dX3_sale_6 (by decide) ?_
  refine z_iconst C (nI 0) dX3_sale_7 (by decide) ?_
  refine z_iastN C 5 wM_ga (by omega) (by decide) dX3_sale_8 (wM_set_ga 0 0) ?_
  refine z_aload_n C dX3_sale_9 1 rfl ?_
  refine z_get C inX3_sale_X3 0 wM_o rfl 10 (by decide) (C.w 2 rfl) rfl dX3_sale_10 ?_
  refine z_iconst C (nI 0) dX3_sale_13 (by decide) ?_
  refine z_iconst C (nI 0) dX3_sale_14 (by decide) ?_
  refine z_iastN C 6 wM_sz (by omega) (by decide) dX3_sale_15 (wM_set_sz 0 0) ?_
  refine z_iconst C (nI 0) dX3_sale_16 (by decide) ?_
  refine z_istore_n C dX3_sale_17 (by decide) [(2, .int (nI 0)), (1, .int (nI 0)), (0, .ref (q 0))] rfl ?_
  refine zW.pick (lv' := [(0, .ref (q 0)), (1, .int (nI 0)), (2, .int (nI 0))]) [2, 1, 0] rfl ?_
  have hlp18 : ∀ (kb b : Nat) (la1 : Nat → Int) (pe1 : Nat → Nat) (ga1 : Nat → Int) (sz1 : Nat → Nat), b + kb = zNb a → (mIv a la1 pe1 ga1 sz1 (2 ^ b)) → (zM0 la1 pe1) → zW g l ({ frames := 4, cells := 0, slots := 0, locals := 86 }) E (zMQ g E (zPie (nI (mBest a)) (zMsP g q th a)) 0 0) 8 0 0 (wM g q th a la1 pe1 ga1 sz1) [(0, .ref (q 0)), (1, .int (nI (mBU a (2 ^ b)))), (2, .int (nI b))] [] 18 := by
    intro kb
    induction kb with
    | zero =>
      intro b la1 pe1 ga1 sz1 hbk hI1 hz1
      refine z_iload_n C dX3_sale_18 2 rfl ?_
      refine z_aload_n C dX3_sale_19 0 rfl ?_
      refine z_get C inX3_sale_X3 0 wM_o rfl 3 (by decide) (C.w 3 rfl) rfl dX3_sale_20 ?_
      refine z_icmp_ge C 272 dX3_sale_23 (by decide) (zle_NN (by omega) (by omega)) (fun c_23 => ?_) (fun h9 => absurd (by omega) h9)
      refine z_iload_n C dX3_sale_272 1 rfl ?_
      exact z_iretE C dX3_sale_273 (by rw [show b = zNb a by omega]; rfl) ⟨_, _, _, _, rfl, hz1, fun n hn => ⟨(hI1 n (by rw [show b = zNb a by omega]; exact hn)).2.2.1, (hI1 n (by rw [show b = zNb a by omega]; exact hn)).2.2.2⟩⟩
    | succ kb ih18 =>
      intro b la1 pe1 ga1 sz1 hbk hI1 hz1
      have hb11 : 2 ^ b ≤ 2 ^ 11 := zp2_le (by omega)
      have hb0 := Nat.two_pow_pos b
      refine z_iload_n C dX3_sale_18 2 rfl ?_
      refine z_aload_n C dX3_sale_19 0 rfl ?_
      refine z_get C inX3_sale_X3 0 wM_o rfl 3 (by decide) (C.w 3 rfl) rfl dX3_sale_20 ?_
      refine z_icmp_ge C 272 dX3_sale_23 (by decide) (zle_NN (by omega) (by omega)) (fun h9 => absurd h9 (by omega)) (fun c_23 => ?_)
      refine z_aload_n C dX3_sale_26 0 rfl ?_
      refine z_iload_n C dX3_sale_27 2 rfl ?_
      refine z_callV C (c_X3_isCounted l g q th a la1 pe1 ga1 sz1 ha b (by omega)) (cwV 1 C.ts gX3_sale_X3_isCounted rfl rfl rfl (by decide +kernel) ⟨Nat.le_of_ble_eq_true rfl, Nat.le_of_ble_eq_true rfl⟩) wM_o rfl rfl rfl (Nat.le_of_ble_eq_true rfl) dX3_sale_28 ⟨Nat.zero_le _, Nat.zero_le _⟩ (z_i ?_)
      refine z_istore_n C dX3_sale_31 (by decide) [(3, .int (bI (zCn a (zOu a) b))), (0, .ref (q 0)), (1, .int (nI (mBU a (2 ^ b)))), (2, .int (nI b))] rfl ?_
      refine z_aload_n C dX3_sale_32 1 rfl ?_
      refine z_iload_n C dX3_sale_33 3 rfl ?_
      refine z_callV C (c_X3_gain l g q th a la1 pe1 ga1 sz1 ha b (by omega)) (cwV 1 C.ts gX3_sale_X3_gain rfl rfl rfl (by decide +kernel) ⟨Nat.le_of_ble_eq_true rfl, Nat.le_of_ble_eq_true rfl⟩) wM_o rfl rfl rfl (Nat.le_of_ble_eq_true rfl) dX3_sale_34 ⟨Nat.zero_le _, Nat.zero_le _⟩ (z_i ?_)
      have f_34 := zGn_bnd ha (b := b) (by omega)
      refine z_istore C dX3_sale_37 (by decide) [(4, .int (iZ (zGn a b))), (3, .int (bI (zCn a (zOu a) b))), (0, .ref (q 0)), (1, .int (nI (mBU a (2 ^ b)))), (2, .int (nI b))] rfl ?_
      refine z_iconst C (nI 1) dX3_sale_39 (by decide) ?_
      refine z_iload_n C dX3_sale_40 4 rfl ?_
      refine z_ishl C dX3_sale_41 (v := nI (2 ^ b)) (zshl_1N (by omega)) ?_
      refine z_istore C dX3_sale_42 (by decide) [(5, .int (nI (2 ^ b))), (4, .int (iZ (zGn a b))), (3, .int (bI (zCn a (zOu a) b))), (0, .ref (q 0)), (1, .int (nI (mBU a (2 ^ b)))), (2, .int (nI b))] rfl ?_
      refine zW.pick (lv' := [(0, .ref (q 0)), (1, .int (nI (mBU a (2 ^ b)))), (2, .int (nI b)), (3, .int (bI (zCn a (zOu a) b))), (4, .int (iZ (zGn a b))), (5, .int (nI (2 ^ b)))]) [3, 4, 5, 2, 1, 0] rfl ?_
      have hlp44 : ∀ (kr r : Nat) (la2 : Nat → Int) (pe2 : Nat → Nat) (ga2 : Nat → Int) (sz2 : Nat → Nat), r + kr = 2 ^ b → (mIv a la2 pe2 ga2 sz2 (2 ^ b + r)) → (zM0 la2 pe2) → zW g l ({ frames := 4, cells := 0, slots := 0, locals := 86 }) E (zMQ g E (zPie (nI (mBest a)) (zMsP g q th a)) 0 0) 8 0 0 (wM g q th a la2 pe2 ga2 sz2) [(0, .ref (q 0)), (1, .int (nI (mBU a (2 ^ b + r)))), (2, .int (nI b)), (3, .int (bI (zCn a (zOu a) b))), (4, .int (iZ (zGn a b))), (5, .int (nI (2 ^ b + r)))] [] 44 := by
        intro kr
        induction kr with
        | zero =>
          intro r la2 pe2 ga2 sz2 hrk hI2 hz2
          refine z_iload C dX3_sale_44 5 rfl ?_
          refine z_iconst C (nI 2) dX3_sale_46 (by decide) ?_
          refine z_iload_n C dX3_sale_47 2 rfl ?_
          refine z_ishl C dX3_sale_48 (v := nI (2 * 2 ^ b)) (zshl_NN (by omega) (by omega)) ?_
          refine z_icmp_ge C 266 dX3_sale_49 (by decide) (zle_NN (by omega) (by omega)) (fun c_49 => ?_) (fun h9 => absurd (by omega) h9)
          refine z_iinc C dX3_sale_266 2 (nI (b + 1)) rfl (nI_add b 1) (by decide) [(2, .int (nI (b + 1))), (0, .ref (q 0)), (1, .int (nI (mBU a (2 ^ b + r)))), (3, .int (bI (zCn a (zOu a) b))), (4, .int (iZ (zGn a b))), (5, .int (nI (2 ^ b + r)))] rfl ?_
          refine z_goto C 18 dX3_sale_269 (by decide) ?_
          refine zW.pick (lv' := [(0, .ref (q 0)), (1, .int (nI (mBU a (2 ^ b + r)))), (2, .int (nI (b + 1)))]) [1, 2, 0] rfl ?_
          refine zW.lve (lv' := [(0, .ref (q 0)), (1, .int (nI (mBU a (2 ^ (b + 1))))), (2, .int (nI (b + 1)))]) ((by rw [show 2 ^ (b + 1) = 2 ^ b + r by rw [Nat.pow_succ]; omega])) ?_
          exact ih18 (b + 1) la2 pe2 ga2 sz2 (by omega) (by rw [show 2 ^ (b + 1) = 2 ^ b + r by rw [Nat.pow_succ]; omega]; exact hI2) hz2
        | succ kr ih44 =>
          intro r la2 pe2 ga2 sz2 hrk hI2 hz2
          have hr9 : r < 2 ^ b := by omega
          obtain ⟨q1, q2, q3, q4⟩ := hI2 r (by omega)
          obtain ⟨a1, a2, a3, a4, a5⟩ := zset_add (a := a) hr9 (by omega)
          have hrn : r < 2 ^ zNb a := Nat.lt_of_lt_of_le hr9 (zp2_le (by omega))
          have hSn : 2 ^ b + r < 2 ^ zNb a := Nat.lt_of_lt_of_le (m := 2 ^ (b + 1)) (by rw [Nat.pow_succ]; omega) (zp2_le (by omega))
          have l1 := mLd_lt ha hrn 12
          have l2 := mPp_lt ha hrn 12
          have q2b : pe2 r < 32 := by rw [q2]; exact l2
          have hla : -1 ≤ la2 r ∧ la2 r < 256 := by rw [q1]; unfold mLa; split <;> omega
          have hm : la2 r = -1 ↔ mFe a r 12 = false := by rw [q1]; unfold mLa; cases mFe a r 12 <;> simp <;> omega
          have hbu := mBU_lt a (2 ^ b + r) (by omega)
          refine z_iload C dX3_sale_44 5 rfl ?_
          refine z_iconst C (nI 2) dX3_sale_46 (by decide) ?_
          refine z_iload_n C dX3_sale_47 2 rfl ?_
          refine z_ishl C dX3_sale_48 (v := nI (2 * 2 ^ b)) (zshl_NN (by omega) (by omega)) ?_
          refine z_icmp_ge C 266 dX3_sale_49 (by decide) (zle_NN (by omega) (by omega)) (fun h9 => absurd h9 (by omega)) (fun c_49 => ?_)
          refine z_iload C dX3_sale_52 5 rfl ?_
          refine z_iconst C (nI 1) dX3_sale_54 (by decide) ?_
          refine z_iload_n C dX3_sale_55 2 rfl ?_
          refine z_ishl C dX3_sale_56 (v := nI (2 ^ b)) (zshl_1N (by omega)) ?_
          refine z_isub C dX3_sale_57 (v := nI r) (by rw [pk_sub (by omega), Nat.add_sub_cancel_left]) ?_
          refine z_istore C dX3_sale_58 (by decide) [(6, .int (nI r)), (0, .ref (q 0)), (1, .int (nI (mBU a (2 ^ b + r)))), (2, .int (nI b)), (3, .int (bI (zCn a (zOu a) b))), (4, .int (iZ (zGn a b))), (5, .int (nI (2 ^ b + r)))] rfl ?_
          refine z_iload_n C dX3_sale_60 4 rfl ?_
          refine z_if_eq C 115 dX3_sale_61 (by decide) (zeq_B0 _) (fun c_61 => ?_) (fun c_61 => ?_)
          · skip
            have hfs : mFe a (2 ^ b + r) 12 = false := by rw [a4]; first | (rw [hm.mp c_72]; rfl) | (simp_all [mPe]; done)
            refine z_iconst C (nI 0) dX3_sale_115 (by decide) ?_
            refine z_istore C dX3_sale_116 (by decide) [(7, .int (nI 0)), (6, .int (nI r)), (0, .ref (q 0)), (1, .int (nI (mBU a (2 ^ b + r)))), (2, .int (nI b)), (3, .int (bI (zCn a (zOu a) b))), (4, .int (iZ (zGn a b))), (5, .int (nI (2 ^ b + r)))] rfl ?_
            refine z_aload_n C dX3_sale_118 2 rfl ?_
            refine z_get C inX3_sale_X3 0 wM_o rfl 7 (by decide) (C.w 4 rfl) rfl dX3_sale_119 ?_
            refine z_iload C dX3_sale_122 7 rfl ?_
            refine z_iload C dX3_sale_124 0 rfl ?_
            refine z_if_eq C 146 dX3_sale_126 (by decide) (zeq_N0 (by omega)) (fun c_126 => ?_) (fun h9 => absurd (by decide) h9)
            refine z_iconst C (iZ (-1)) dX3_sale_146 (by decide) ?_
            refine z_iastN C 3 wM_la (by omega) (by decide) dX3_sale_147 (wM_set_la (2 ^ b + r) (-1)) ?_
            refine z_aload_n C dX3_sale_148 2 rfl ?_
            refine z_get C inX3_sale_X3 0 wM_o rfl 8 (by decide) (C.w 5 rfl) rfl dX3_sale_149 ?_
            refine z_iload C dX3_sale_152 7 rfl ?_
            refine z_aload_n C dX3_sale_154 2 rfl ?_
            refine z_get C inX3_sale_X3 0 wM_o rfl 8 (by decide) (C.w 5 rfl) rfl dX3_sale_155 ?_
            refine z_iload C dX3_sale_158 1 rfl ?_
            refine z_ialdN C 4 wM_pe (by omega) (by decide) dX3_sale_160 (v := nI (pe2 r)) rfl ?_
            refine z_iconst C (nI 1) dX3_sale_161 (by decide) ?_
            refine z_aload_n C dX3_sale_162 2 rfl ?_
            refine z_iload_n C dX3_sale_163 4 rfl ?_
            refine z_iconst C (nI 0) dX3_sale_164 (by decide) ?_
            refine z_callV C (c_X3_bi_0 l g q th a (va_up la2 (2 ^ b + r) (-1)) pe2 ga2 sz2 b (by omega)) (cwV 2 C.ts gX3_sale_X3_bi rfl rfl rfl (by decide +kernel) ⟨Nat.le_of_ble_eq_true rfl, Nat.le_of_ble_eq_true rfl⟩) wM_o rfl rfl rfl (Nat.le_of_ble_eq_true rfl) dX3_sale_165 ⟨Nat.zero_le _, Nat.zero_le _⟩ (z_i ?_)
            have f_165 := ha.ow (b := b) (by omega)
            refine z_ishl C dX3_sale_168 (v := nI (2 ^ (zOw a b))) (zshl_1N (by omega)) ?_
            refine z_ior C dX3_sale_169 (v := nI ((pe2 r) ||| (2 ^ (zOw a b)))) (zor_NN (pe2 r) (2 ^ (zOw a b))) ?_
            refine z_iastN C 4 wM_pe (by omega) (by decide) dX3_sale_170 (wM_set_pe (2 ^ b + r) ((pe2 r) ||| (2 ^ (zOw a b)))) ?_
            refine z_aload_n C dX3_sale_171 2 rfl ?_
            refine z_get C inX3_sale_X3 0 wM_o rfl 9 (by decide) (C.w 1 rfl) rfl dX3_sale_172 ?_
            refine z_iload C dX3_sale_175 7 rfl ?_
            refine z_aload_n C dX3_sale_177 2 rfl ?_
            refine z_get C inX3_sale_X3 0 wM_o rfl 9 (by decide) (C.w 1 rfl) rfl dX3_sale_178 ?_
            refine z_iload C dX3_sale_181 1 rfl ?_
            refine z_ialdN C 5 wM_ga (by omega) (by decide) dX3_sale_183 (v := iZ (ga2 r)) rfl ?_
            refine z_iload C dX3_sale_184 6 rfl ?_
            refine z_iadd C dX3_sale_186 (v := iZ ((ga2 r) + (zGn a b))) (iZ_add (ga2 r) (zGn a b)) ?_
            refine z_iastN C 5 wM_ga (by omega) (by decide) dX3_sale_187 (wM_set_ga (2 ^ b + r) ((ga2 r) + (zGn a b))) ?_
            refine z_aload_n C dX3_sale_188 2 rfl ?_
            refine z_get C inX3_sale_X3 0 wM_o rfl 10 (by decide) (C.w 2 rfl) rfl dX3_sale_189 ?_
            refine z_iload C dX3_sale_192 7 rfl ?_
            refine z_aload_n C dX3_sale_194 2 rfl ?_
            refine z_get C inX3_sale_X3 0 wM_o rfl 10 (by decide) (C.w 2 rfl) rfl dX3_sale_195 ?_
            refine z_iload C dX3_sale_198 1 rfl ?_
            refine z_ialdN C 6 wM_sz (by omega) (by decide) dX3_sale_200 (v := nI (sz2 r)) rfl ?_
            refine z_iconst C (nI 1) dX3_sale_201 (by decide) ?_
            refine z_iadd C dX3_sale_202 (v := nI ((sz2 r) + 1)) (nI_add (sz2 r) 1) ?_
            refine z_iastN C 6 wM_sz (by omega) (by decide) dX3_sale_203 (wM_set_sz (2 ^ b + r) ((sz2 r) + 1)) ?_
            have hX : ((-1) : Int) = mLa a (2 ^ b + r) := by unfold mLa; rw [hfs]; rfl
            have hI3 := mIv_s hI2 hX (show pe2 r ||| 2 ^ zOw a b = _ by rw [q2]; exact a2.symm) (show ga2 r + zGn a b = _ by rw [q3]; exact a3.symm) (show sz2 r + 1 = _ by rw [q4]; exact a5.symm)
            have hbs : mBU a (2 ^ b + (r + 1)) = mBU a (2 ^ b + r) := by rw [← Nat.add_assoc, mBU_s, if_neg (by rw [hfs]; simp)]
            refine z_iload C dX3_sale_204 0 rfl ?_
            refine z_if_eq C 260 dX3_sale_206 (by decide) (zeq_N0 (by omega)) (fun c_206 => ?_) (fun h9 => absurd (by decide) h9)
            refine z_iinc C dX3_sale_260 7 (nI (2 ^ b + r + 1)) rfl (nI_add (2 ^ b + r) 1) (by decide) [(5, .int (nI (2 ^ b + r + 1))), (7, .int (nI 0)), (6, .int (nI r)), (0, .ref (q 0)), (1, .int (nI (mBU a (2 ^ b + r)))), (2, .int (nI b)), (3, .int (bI (zCn a (zOu a) b))), (4, .int (iZ (zGn a b)))] rfl ?_
            refine z_goto C 44 dX3_sale_263 (by decide) ?_
            refine zW.pick (lv' := [(0, .ref (q 0)), (1, .int (nI (mBU a (2 ^ b + r)))), (2, .int (nI b)), (3, .int (bI (zCn a (zOu a) b))), (4, .int (iZ (zGn a b))), (5, .int (nI (2 ^ b + r + 1)))]) [3, 4, 5, 6, 7, 0] rfl ?_
            refine zW.lve (lv' := [(0, .ref (q 0)), (1, .int (nI (mBU a (2 ^ b + (r + 1))))), (2, .int (nI b)), (3, .int (bI (zCn a (zOu a) b))), (4, .int (iZ (zGn a b))), (5, .int (nI (2 ^ b + (r + 1))))]) (by rw [hbs, ← Nat.add_assoc]) ?_
            exact ih44 (r + 1) (va_up la2 (2 ^ b + r) (-1)) (va_up pe2 (2 ^ b + r) ((pe2 r) ||| (2 ^ (zOw a b)))) (va_up ga2 (2 ^ b + r) ((ga2 r) + (zGn a b))) (va_up sz2 (2 ^ b + r) ((sz2 r) + 1)) (by omega) hI3 (zM0_s hz2 (by omega))
          · skip
            refine z_aload_n C dX3_sale_64 1 rfl ?_
            refine z_get C inX3_sale_X3 0 wM_o rfl 7 (by decide) (C.w 4 rfl) rfl dX3_sale_65 ?_
            refine z_iload C dX3_sale_68 0 rfl ?_
            refine z_ialdN C 3 wM_la (by omega) (by decide) dX3_sale_70 (v := iZ (la2 r)) rfl ?_
            refine z_iconst C (iZ (-1)) dX3_sale_71 (by decide) ?_
            refine z_icmp_eq C 115 dX3_sale_72 (by decide) (zeq_ZZ (x := (la2 r)) (y := (-1)) (by unfold zB31; omega) (by unfold zB31; omega)) (fun c_72 => ?_) (fun c_72 => ?_)
            · skip
              have hfs : mFe a (2 ^ b + r) 12 = false := by rw [a4]; first | (rw [hm.mp c_72]; rfl) | (simp_all [mPe]; done)
              refine z_iconst C (nI 0) dX3_sale_115 (by decide) ?_
              refine z_istore C dX3_sale_116 (by decide) [(7, .int (nI 0)), (6, .int (nI r)), (0, .ref (q 0)), (1, .int (nI (mBU a (2 ^ b + r)))), (2, .int (nI b)), (3, .int (bI (zCn a (zOu a) b))), (4, .int (iZ (zGn a b))), (5, .int (nI (2 ^ b + r)))] rfl ?_
              refine z_aload_n C dX3_sale_118 2 rfl ?_
              refine z_get C inX3_sale_X3 0 wM_o rfl 7 (by decide) (C.w 4 rfl) rfl dX3_sale_119 ?_
              refine z_iload C dX3_sale_122 7 rfl ?_
              refine z_iload C dX3_sale_124 0 rfl ?_
              refine z_if_eq C 146 dX3_sale_126 (by decide) (zeq_N0 (by omega)) (fun c_126 => ?_) (fun h9 => absurd (by decide) h9)
              refine z_iconst C (iZ (-1)) dX3_sale_146 (by decide) ?_
              refine z_iastN C 3 wM_la (by omega) (by decide) dX3_sale_147 (wM_set_la (2 ^ b + r) (-1)) ?_
              refine z_aload_n C dX3_sale_148 2 rfl ?_
              refine z_get C inX3_sale_X3 0 wM_o rfl 8 (by decide) (C.w 5 rfl) rfl dX3_sale_149 ?_
              refine z_iload C dX3_sale_152 7 rfl ?_
              refine z_aload_n C dX3_sale_154 2 rfl ?_
              refine z_get C inX3_sale_X3 0 wM_o rfl 8 (by decide) (C.w 5 rfl) rfl dX3_sale_155 ?_
              refine z_iload C dX3_sale_158 1 rfl ?_
              refine z_ialdN C 4 wM_pe (by omega) (by decide) dX3_sale_160 (v := nI (pe2 r)) rfl ?_
              refine z_iconst C (nI 1) dX3_sale_161 (by decide) ?_
              refine z_aload_n C dX3_sale_162 2 rfl ?_
              refine z_iload_n C dX3_sale_163 4 rfl ?_
              refine z_iconst C (nI 0) dX3_sale_164 (by decide) ?_
              refine z_callV C (c_X3_bi_0 l g q th a (va_up la2 (2 ^ b + r) (-1)) pe2 ga2 sz2 b (by omega)) (cwV 2 C.ts gX3_sale_X3_bi rfl rfl rfl (by decide +kernel) ⟨Nat.le_of_ble_eq_true rfl, Nat.le_of_ble_eq_true rfl⟩) wM_o rfl rfl rfl (Nat.le_of_ble_eq_true rfl) dX3_sale_165 ⟨Nat.zero_le _, Nat.zero_le _⟩ (z_i ?_)
              have f_165 := ha.ow (b := b) (by omega)
              refine z_ishl C dX3_sale_168 (v := nI (2 ^ (zOw a b))) (zshl_1N (by omega)) ?_
              refine z_ior C dX3_sale_169 (v := nI ((pe2 r) ||| (2 ^ (zOw a b)))) (zor_NN (pe2 r) (2 ^ (zOw a b))) ?_
              refine z_iastN C 4 wM_pe (by omega) (by decide) dX3_sale_170 (wM_set_pe (2 ^ b + r) ((pe2 r) ||| (2 ^ (zOw a b)))) ?_
              refine z_aload_n C dX3_sale_171 2 rfl ?_
              refine z_get C inX3_sale_X3 0 wM_o rfl 9 (by decide) (C.w 1 rfl) rfl dX3_sale_172 ?_
              refine z_iload C dX3_sale_175 7 rfl ?_
              refine z_aload_n C dX3_sale_177 2 rfl ?_
              refine z_get C inX3_sale_X3 0 wM_o rfl 9 (by decide) (C.w 1 rfl) rfl dX3_sale_178 ?_
              refine z_iload C dX3_sale_181 1 rfl ?_
              refine z_ialdN C 5 wM_ga (by omega) (by decide) dX3_sale_183 (v := iZ (ga2 r)) rfl ?_
              refine z_iload C dX3_sale_184 6 rfl ?_
              refine z_iadd C dX3_sale_186 (v := iZ ((ga2 r) + (zGn a b))) (iZ_add (ga2 r) (zGn a b)) ?_
              refine z_iastN C 5 wM_ga (by omega) (by decide) dX3_sale_187 (wM_set_ga (2 ^ b + r) ((ga2 r) + (zGn a b))) ?_
              refine z_aload_n C dX3_sale_188 2 rfl ?_
              refine z_get C inX3_sale_X3 0 wM_o rfl 10 (by decide) (C.w 2 rfl) rfl dX3_sale_189 ?_
              refine z_iload C dX3_sale_192 7 rfl ?_
              refine z_aload_n C dX3_sale_194 2 rfl ?_
              refine z_get C inX3_sale_X3 0 wM_o rfl 10 (by decide) (C.w 2 rfl) rfl dX3_sale_195 ?_
              refine z_iload C dX3_sale_198 1 rfl ?_
              refine z_ialdN C 6 wM_sz (by omega) (by decide) dX3_sale_200 (v := nI (sz2 r)) rfl ?_
              refine z_iconst C (nI 1) dX3_sale_201 (by decide) ?_
              refine z_iadd C dX3_sale_202 (v := nI ((sz2 r) + 1)) (nI_add (sz2 r) 1) ?_
              refine z_iastN C 6 wM_sz (by omega) (by decide) dX3_sale_203 (wM_set_sz (2 ^ b + r) ((sz2 r) + 1)) ?_
              have hX : ((-1) : Int) = mLa a (2 ^ b + r) := by unfold mLa; rw [hfs]; rfl
              have hI3 := mIv_s hI2 hX (show pe2 r ||| 2 ^ zOw a b = _ by rw [q2]; exact a2.symm) (show ga2 r + zGn a b = _ by rw [q3]; exact a3.symm) (show sz2 r + 1 = _ by rw [q4]; exact a5.symm)
              have hbs : mBU a (2 ^ b + (r + 1)) = mBU a (2 ^ b + r) := by rw [← Nat.add_assoc, mBU_s, if_neg (by rw [hfs]; simp)]
              refine z_iload C dX3_sale_204 0 rfl ?_
              refine z_if_eq C 260 dX3_sale_206 (by decide) (zeq_N0 (by omega)) (fun c_206 => ?_) (fun h9 => absurd (by decide) h9)
              refine z_iinc C dX3_sale_260 7 (nI (2 ^ b + r + 1)) rfl (nI_add (2 ^ b + r) 1) (by decide) [(5, .int (nI (2 ^ b + r + 1))), (7, .int (nI 0)), (6, .int (nI r)), (0, .ref (q 0)), (1, .int (nI (mBU a (2 ^ b + r)))), (2, .int (nI b)), (3, .int (bI (zCn a (zOu a) b))), (4, .int (iZ (zGn a b)))] rfl ?_
              refine z_goto C 44 dX3_sale_263 (by decide) ?_
              refine zW.pick (lv' := [(0, .ref (q 0)), (1, .int (nI (mBU a (2 ^ b + r)))), (2, .int (nI b)), (3, .int (bI (zCn a (zOu a) b))), (4, .int (iZ (zGn a b))), (5, .int (nI (2 ^ b + r + 1)))]) [3, 4, 5, 6, 7, 0] rfl ?_
              refine zW.lve (lv' := [(0, .ref (q 0)), (1, .int (nI (mBU a (2 ^ b + (r + 1))))), (2, .int (nI b)), (3, .int (bI (zCn a (zOu a) b))), (4, .int (iZ (zGn a b))), (5, .int (nI (2 ^ b + (r + 1))))]) (by rw [hbs, ← Nat.add_assoc]) ?_
              exact ih44 (r + 1) (va_up la2 (2 ^ b + r) (-1)) (va_up pe2 (2 ^ b + r) ((pe2 r) ||| (2 ^ (zOw a b)))) (va_up ga2 (2 ^ b + r) ((ga2 r) + (zGn a b))) (va_up sz2 (2 ^ b + r) ((sz2 r) + 1)) (by omega) hI3 (zM0_s hz2 (by omega))
            · skip
              refine z_aload_n C dX3_sale_75 1 rfl ?_
              refine z_get C inX3_sale_X3 0 wM_o rfl 7 (by decide) (C.w 4 rfl) rfl dX3_sale_76 ?_
              refine z_iload C dX3_sale_79 0 rfl ?_
              refine z_ialdN C 3 wM_la (by omega) (by decide) dX3_sale_81 (v := iZ (la2 r)) rfl ?_
              have hfe : mFe a r 12 = true := eq_true_of_ne_false (fun hq => c_72 (hm.mpr hq))
              have hld : la2 r = (mLd a r 12 : Int) := by rw [q1]; unfold mLa; rw [if_pos hfe]
              refine zW.top (y := nI (mLd a r 12)) (by rw [hld]; rfl) ?_
              refine z_aload_n C dX3_sale_82 1 rfl ?_
              refine z_iload_n C dX3_sale_83 3 rfl ?_
              refine z_iconst C (nI 1) dX3_sale_84 (by decide) ?_
              refine z_callV C (c_X3_bi_1 l g q th a la2 pe2 ga2 sz2 b (by omega)) (cwV 2 C.ts gX3_sale_X3_bi rfl rfl rfl (by decide +kernel) ⟨Nat.le_of_ble_eq_true rfl, Nat.le_of_ble_eq_true rfl⟩) wM_o rfl rfl rfl (Nat.le_of_ble_eq_true rfl) dX3_sale_85 ⟨Nat.zero_le _, Nat.zero_le _⟩ (z_i ?_)
              have f_85 := ha.bu8 (b := b) (by omega)
              refine z_iand C dX3_sale_88 (v := nI ((mLd a r 12) &&& (zBu a b))) (zand_NN (mLd a r 12) (zBu a b)) ?_
              refine z_if_ne C 115 dX3_sale_89 (by decide) (zeq_N0 (by have : mLd a r 12 &&& zBu a b ≤ zBu a b := Nat.and_le_right; omega)) (fun c_89 => ?_) (fun c_89 => ?_)
              · skip
                have hfs : mFe a (2 ^ b + r) 12 = false := by rw [a4]; first | (rw [hm.mp c_72]; rfl) | (simp_all [mPe]; done)
                refine z_iconst C (nI 0) dX3_sale_115 (by decide) ?_
                refine z_istore C dX3_sale_116 (by decide) [(7, .int (nI 0)), (6, .int (nI r)), (0, .ref (q 0)), (1, .int (nI (mBU a (2 ^ b + r)))), (2, .int (nI b)), (3, .int (bI (zCn a (zOu a) b))), (4, .int (iZ (zGn a b))), (5, .int (nI (2 ^ b + r)))] rfl ?_
                refine z_aload_n C dX3_sale_118 2 rfl ?_
                refine z_get C inX3_sale_X3 0 wM_o rfl 7 (by decide) (C.w 4 rfl) rfl dX3_sale_119 ?_
                refine z_iload C dX3_sale_122 7 rfl ?_
                refine z_iload C dX3_sale_124 0 rfl ?_
                refine z_if_eq C 146 dX3_sale_126 (by decide) (zeq_N0 (by omega)) (fun c_126 => ?_) (fun h9 => absurd (by decide) h9)
                refine z_iconst C (iZ (-1)) dX3_sale_146 (by decide) ?_
                refine z_iastN C 3 wM_la (by omega) (by decide) dX3_sale_147 (wM_set_la (2 ^ b + r) (-1)) ?_
                refine z_aload_n C dX3_sale_148 2 rfl ?_
                refine z_get C inX3_sale_X3 0 wM_o rfl 8 (by decide) (C.w 5 rfl) rfl dX3_sale_149 ?_
                refine z_iload C dX3_sale_152 7 rfl ?_
                refine z_aload_n C dX3_sale_154 2 rfl ?_
                refine z_get C inX3_sale_X3 0 wM_o rfl 8 (by decide) (C.w 5 rfl) rfl dX3_sale_155 ?_
                refine z_iload C dX3_sale_158 1 rfl ?_
                refine z_ialdN C 4 wM_pe (by omega) (by decide) dX3_sale_160 (v := nI (pe2 r)) rfl ?_
                refine z_iconst C (nI 1) dX3_sale_161 (by decide) ?_
                refine z_aload_n C dX3_sale_162 2 rfl ?_
                refine z_iload_n C dX3_sale_163 4 rfl ?_
                refine z_iconst C (nI 0) dX3_sale_164 (by decide) ?_
                refine z_callV C (c_X3_bi_0 l g q th a (va_up la2 (2 ^ b + r) (-1)) pe2 ga2 sz2 b (by omega)) (cwV 2 C.ts gX3_sale_X3_bi rfl rfl rfl (by decide +kernel) ⟨Nat.le_of_ble_eq_true rfl, Nat.le_of_ble_eq_true rfl⟩) wM_o rfl rfl rfl (Nat.le_of_ble_eq_true rfl) dX3_sale_165 ⟨Nat.zero_le _, Nat.zero_le _⟩ (z_i ?_)
                have f_165 := ha.ow (b := b) (by omega)
                refine z_ishl C dX3_sale_168 (v := nI (2 ^ (zOw a b))) (zshl_1N (by omega)) ?_
                refine z_ior C dX3_sale_169 (v := nI ((pe2 r) ||| (2 ^ (zOw a b)))) (zor_NN (pe2 r) (2 ^ (zOw a b))) ?_
                refine z_iastN C 4 wM_pe (by omega) (by decide) dX3_sale_170 (wM_set_pe (2 ^ b + r) ((pe2 r) ||| (2 ^ (zOw a b)))) ?_
                refine z_aload_n C dX3_sale_171 2 rfl ?_
                refine z_get C inX3_sale_X3 0 wM_o rfl 9 (by decide) (C.w 1 rfl) rfl dX3_sale_172 ?_
                refine z_iload C dX3_sale_175 7 rfl ?_
                refine z_aload_n C dX3_sale_177 2 rfl ?_
                refine z_get C inX3_sale_X3 0 wM_o rfl 9 (by decide) (C.w 1 rfl) rfl dX3_sale_178 ?_
                refine z_iload C dX3_sale_181 1 rfl ?_
                refine z_ialdN C 5 wM_ga (by omega) (by decide) dX3_sale_183 (v := iZ (ga2 r)) rfl ?_
                refine z_iload C dX3_sale_184 6 rfl ?_
                refine z_iadd C dX3_sale_186 (v := iZ ((ga2 r) + (zGn a b))) (iZ_add (ga2 r) (zGn a b)) ?_
                refine z_iastN C 5 wM_ga (by omega) (by decide) dX3_sale_187 (wM_set_ga (2 ^ b + r) ((ga2 r) + (zGn a b))) ?_
                refine z_aload_n C dX3_sale_188 2 rfl ?_
                refine z_get C inX3_sale_X3 0 wM_o rfl 10 (by decide) (C.w 2 rfl) rfl dX3_sale_189 ?_
                refine z_iload C dX3_sale_192 7 rfl ?_
                refine z_aload_n C dX3_sale_194 2 rfl ?_
                refine z_get C inX3_sale_X3 0 wM_o rfl 10 (by decide) (C.w 2 rfl) rfl dX3_sale_195 ?_
                refine z_iload C dX3_sale_198 1 rfl ?_
                refine z_ialdN C 6 wM_sz (by omega) (by decide) dX3_sale_200 (v := nI (sz2 r)) rfl ?_
                refine z_iconst C (nI 1) dX3_sale_201 (by decide) ?_
                refine z_iadd C dX3_sale_202 (v := nI ((sz2 r) + 1)) (nI_add (sz2 r) 1) ?_
                refine z_iastN C 6 wM_sz (by omega) (by decide) dX3_sale_203 (wM_set_sz (2 ^ b + r) ((sz2 r) + 1)) ?_
                have hX : ((-1) : Int) = mLa a (2 ^ b + r) := by unfold mLa; rw [hfs]; rfl
                have hI3 := mIv_s hI2 hX (show pe2 r ||| 2 ^ zOw a b = _ by rw [q2]; exact a2.symm) (show ga2 r + zGn a b = _ by rw [q3]; exact a3.symm) (show sz2 r + 1 = _ by rw [q4]; exact a5.symm)
                have hbs : mBU a (2 ^ b + (r + 1)) = mBU a (2 ^ b + r) := by rw [← Nat.add_assoc, mBU_s, if_neg (by rw [hfs]; simp)]
                refine z_iload C dX3_sale_204 0 rfl ?_
                refine z_if_eq C 260 dX3_sale_206 (by decide) (zeq_N0 (by omega)) (fun c_206 => ?_) (fun h9 => absurd (by decide) h9)
                refine z_iinc C dX3_sale_260 7 (nI (2 ^ b + r + 1)) rfl (nI_add (2 ^ b + r) 1) (by decide) [(5, .int (nI (2 ^ b + r + 1))), (7, .int (nI 0)), (6, .int (nI r)), (0, .ref (q 0)), (1, .int (nI (mBU a (2 ^ b + r)))), (2, .int (nI b)), (3, .int (bI (zCn a (zOu a) b))), (4, .int (iZ (zGn a b)))] rfl ?_
                refine z_goto C 44 dX3_sale_263 (by decide) ?_
                refine zW.pick (lv' := [(0, .ref (q 0)), (1, .int (nI (mBU a (2 ^ b + r)))), (2, .int (nI b)), (3, .int (bI (zCn a (zOu a) b))), (4, .int (iZ (zGn a b))), (5, .int (nI (2 ^ b + r + 1)))]) [3, 4, 5, 6, 7, 0] rfl ?_
                refine zW.lve (lv' := [(0, .ref (q 0)), (1, .int (nI (mBU a (2 ^ b + (r + 1))))), (2, .int (nI b)), (3, .int (bI (zCn a (zOu a) b))), (4, .int (iZ (zGn a b))), (5, .int (nI (2 ^ b + (r + 1))))]) (by rw [hbs, ← Nat.add_assoc]) ?_
                exact ih44 (r + 1) (va_up la2 (2 ^ b + r) (-1)) (va_up pe2 (2 ^ b + r) ((pe2 r) ||| (2 ^ (zOw a b)))) (va_up ga2 (2 ^ b + r) ((ga2 r) + (zGn a b))) (va_up sz2 (2 ^ b + r) ((sz2 r) + 1)) (by omega) hI3 (zM0_s hz2 (by omega))
              · skip
                refine z_aload_n C dX3_sale_92 1 rfl ?_
                refine z_get C inX3_sale_X3 0 wM_o rfl 8 (by decide) (C.w 5 rfl) rfl dX3_sale_93 ?_
                refine z_iload C dX3_sale_96 0 rfl ?_
                refine z_ialdN C 4 wM_pe (by omega) (by decide) dX3_sale_98 (v := nI (pe2 r)) rfl ?_
                refine z_aload_n C dX3_sale_99 1 rfl ?_
                refine z_iload_n C dX3_sale_100 3 rfl ?_
                refine z_iconst C (nI 0) dX3_sale_101 (by decide) ?_
                refine z_callV C (c_X3_bi_0 l g q th a la2 pe2 ga2 sz2 b (by omega)) (cwV 2 C.ts gX3_sale_X3_bi rfl rfl rfl (by decide +kernel) ⟨Nat.le_of_ble_eq_true rfl, Nat.le_of_ble_eq_true rfl⟩) wM_o rfl rfl rfl (Nat.le_of_ble_eq_true rfl) dX3_sale_102 ⟨Nat.zero_le _, Nat.zero_le _⟩ (z_i ?_)
                have f_102 := ha.ow (b := b) (by omega)
                refine z_callS C (c_X3_bit l g (wM g q th a la2 pe2 ga2 sz2) (pe2 r) (zOw a b) (by omega) (by omega)) (va_cwS 2 C.ts gX3_sale_X3_bit rfl rfl rfl (by decide +kernel) ⟨Nat.le_of_ble_eq_true rfl, Nat.le_of_ble_eq_true rfl⟩) rfl rfl (Nat.le_of_ble_eq_true rfl) dX3_sale_105 ⟨Nat.zero_le _, Nat.zero_le _⟩ (z_i ?_)
                refine z_if_ne C 115 dX3_sale_108 (by decide) (zeq_B0 _) (fun c_108 => ?_) (fun c_108 => ?_)
                · skip
                  have hfs : mFe a (2 ^ b + r) 12 = false := by rw [a4]; first | (rw [hm.mp c_72]; rfl) | (simp_all [mPe]; done)
                  refine z_iconst C (nI 0) dX3_sale_115 (by decide) ?_
                  refine z_istore C dX3_sale_116 (by decide) [(7, .int (nI 0)), (6, .int (nI r)), (0, .ref (q 0)), (1, .int (nI (mBU a (2 ^ b + r)))), (2, .int (nI b)), (3, .int (bI (zCn a (zOu a) b))), (4, .int (iZ (zGn a b))), (5, .int (nI (2 ^ b + r)))] rfl ?_
                  refine z_aload_n C dX3_sale_118 2 rfl ?_
                  refine z_get C inX3_sale_X3 0 wM_o rfl 7 (by decide) (C.w 4 rfl) rfl dX3_sale_119 ?_
                  refine z_iload C dX3_sale_122 7 rfl ?_
                  refine z_iload C dX3_sale_124 0 rfl ?_
                  refine z_if_eq C 146 dX3_sale_126 (by decide) (zeq_N0 (by omega)) (fun c_126 => ?_) (fun h9 => absurd (by decide) h9)
                  refine z_iconst C (iZ (-1)) dX3_sale_146 (by decide) ?_
                  refine z_iastN C 3 wM_la (by omega) (by decide) dX3_sale_147 (wM_set_la (2 ^ b + r) (-1)) ?_
                  refine z_aload_n C dX3_sale_148 2 rfl ?_
                  refine z_get C inX3_sale_X3 0 wM_o rfl 8 (by decide) (C.w 5 rfl) rfl dX3_sale_149 ?_
                  refine z_iload C dX3_sale_152 7 rfl ?_
                  refine z_aload_n C dX3_sale_154 2 rfl ?_
                  refine z_get C inX3_sale_X3 0 wM_o rfl 8 (by decide) (C.w 5 rfl) rfl dX3_sale_155 ?_
                  refine z_iload C dX3_sale_158 1 rfl ?_
                  refine z_ialdN C 4 wM_pe (by omega) (by decide) dX3_sale_160 (v := nI (pe2 r)) rfl ?_
                  refine z_iconst C (nI 1) dX3_sale_161 (by decide) ?_
                  refine z_aload_n C dX3_sale_162 2 rfl ?_
                  refine z_iload_n C dX3_sale_163 4 rfl ?_
                  refine z_iconst C (nI 0) dX3_sale_164 (by decide) ?_
                  refine z_callV C (c_X3_bi_0 l g q th a (va_up la2 (2 ^ b + r) (-1)) pe2 ga2 sz2 b (by omega)) (cwV 2 C.ts gX3_sale_X3_bi rfl rfl rfl (by decide +kernel) ⟨Nat.le_of_ble_eq_true rfl, Nat.le_of_ble_eq_true rfl⟩) wM_o rfl rfl rfl (Nat.le_of_ble_eq_true rfl) dX3_sale_165 ⟨Nat.zero_le _, Nat.zero_le _⟩ (z_i ?_)
                  have f_165 := ha.ow (b := b) (by omega)
                  refine z_ishl C dX3_sale_168 (v := nI (2 ^ (zOw a b))) (zshl_1N (by omega)) ?_
                  refine z_ior C dX3_sale_169 (v := nI ((pe2 r) ||| (2 ^ (zOw a b)))) (zor_NN (pe2 r) (2 ^ (zOw a b))) ?_
                  refine z_iastN C 4 wM_pe (by omega) (by decide) dX3_sale_170 (wM_set_pe (2 ^ b + r) ((pe2 r) ||| (2 ^ (zOw a b)))) ?_
                  refine z_aload_n C dX3_sale_171 2 rfl ?_
                  refine z_get C inX3_sale_X3 0 wM_o rfl 9 (by decide) (C.w 1 rfl) rfl dX3_sale_172 ?_
                  refine z_iload C dX3_sale_175 7 rfl ?_
                  refine z_aload_n C dX3_sale_177 2 rfl ?_
                  refine z_get C inX3_sale_X3 0 wM_o rfl 9 (by decide) (C.w 1 rfl) rfl dX3_sale_178 ?_
                  refine z_iload C dX3_sale_181 1 rfl ?_
                  refine z_ialdN C 5 wM_ga (by omega) (by decide) dX3_sale_183 (v := iZ (ga2 r)) rfl ?_
                  refine z_iload C dX3_sale_184 6 rfl ?_
                  refine z_iadd C dX3_sale_186 (v := iZ ((ga2 r) + (zGn a b))) (iZ_add (ga2 r) (zGn a b)) ?_
                  refine z_iastN C 5 wM_ga (by omega) (by decide) dX3_sale_187 (wM_set_ga (2 ^ b + r) ((ga2 r) + (zGn a b))) ?_
                  refine z_aload_n C dX3_sale_188 2 rfl ?_
                  refine z_get C inX3_sale_X3 0 wM_o rfl 10 (by decide) (C.w 2 rfl) rfl dX3_sale_189 ?_
                  refine z_iload C dX3_sale_192 7 rfl ?_
                  refine z_aload_n C dX3_sale_194 2 rfl ?_
                  refine z_get C inX3_sale_X3 0 wM_o rfl 10 (by decide) (C.w 2 rfl) rfl dX3_sale_195 ?_
                  refine z_iload C dX3_sale_198 1 rfl ?_
                  refine z_ialdN C 6 wM_sz (by omega) (by decide) dX3_sale_200 (v := nI (sz2 r)) rfl ?_
                  refine z_iconst C (nI 1) dX3_sale_201 (by decide) ?_
                  refine z_iadd C dX3_sale_202 (v := nI ((sz2 r) + 1)) (nI_add (sz2 r) 1) ?_
                  refine z_iastN C 6 wM_sz (by omega) (by decide) dX3_sale_203 (wM_set_sz (2 ^ b + r) ((sz2 r) + 1)) ?_
                  have hX : ((-1) : Int) = mLa a (2 ^ b + r) := by unfold mLa; rw [hfs]; rfl
                  have hI3 := mIv_s hI2 hX (show pe2 r ||| 2 ^ zOw a b = _ by rw [q2]; exact a2.symm) (show ga2 r + zGn a b = _ by rw [q3]; exact a3.symm) (show sz2 r + 1 = _ by rw [q4]; exact a5.symm)
                  have hbs : mBU a (2 ^ b + (r + 1)) = mBU a (2 ^ b + r) := by rw [← Nat.add_assoc, mBU_s, if_neg (by rw [hfs]; simp)]
                  refine z_iload C dX3_sale_204 0 rfl ?_
                  refine z_if_eq C 260 dX3_sale_206 (by decide) (zeq_N0 (by omega)) (fun c_206 => ?_) (fun h9 => absurd (by decide) h9)
                  refine z_iinc C dX3_sale_260 7 (nI (2 ^ b + r + 1)) rfl (nI_add (2 ^ b + r) 1) (by decide) [(5, .int (nI (2 ^ b + r + 1))), (7, .int (nI 0)), (6, .int (nI r)), (0, .ref (q 0)), (1, .int (nI (mBU a (2 ^ b + r)))), (2, .int (nI b)), (3, .int (bI (zCn a (zOu a) b))), (4, .int (iZ (zGn a b)))] rfl ?_
                  refine z_goto C 44 dX3_sale_263 (by decide) ?_
                  refine zW.pick (lv' := [(0, .ref (q 0)), (1, .int (nI (mBU a (2 ^ b + r)))), (2, .int (nI b)), (3, .int (bI (zCn a (zOu a) b))), (4, .int (iZ (zGn a b))), (5, .int (nI (2 ^ b + r + 1)))]) [3, 4, 5, 6, 7, 0] rfl ?_
                  refine zW.lve (lv' := [(0, .ref (q 0)), (1, .int (nI (mBU a (2 ^ b + (r + 1))))), (2, .int (nI b)), (3, .int (bI (zCn a (zOu a) b))), (4, .int (iZ (zGn a b))), (5, .int (nI (2 ^ b + (r + 1))))]) (by rw [hbs, ← Nat.add_assoc]) ?_
                  exact ih44 (r + 1) (va_up la2 (2 ^ b + r) (-1)) (va_up pe2 (2 ^ b + r) ((pe2 r) ||| (2 ^ (zOw a b)))) (va_up ga2 (2 ^ b + r) ((ga2 r) + (zGn a b))) (va_up sz2 (2 ^ b + r) ((sz2 r) + 1)) (by omega) hI3 (zM0_s hz2 (by omega))
                · skip
                  have hfs : mFe a (2 ^ b + r) 12 = true := by rw [a4, hfe]; simp_all [mPe]
                  refine z_iconst C (nI 1) dX3_sale_111 (by decide) ?_
                  refine z_goto C 116 dX3_sale_112 (by decide) ?_
                  refine z_istore C dX3_sale_116 (by decide) [(7, .int (nI 1)), (6, .int (nI r)), (0, .ref (q 0)), (1, .int (nI (mBU a (2 ^ b + r)))), (2, .int (nI b)), (3, .int (bI (zCn a (zOu a) b))), (4, .int (iZ (zGn a b))), (5, .int (nI (2 ^ b + r)))] rfl ?_
                  refine z_aload_n C dX3_sale_118 2 rfl ?_
                  refine z_get C inX3_sale_X3 0 wM_o rfl 7 (by decide) (C.w 4 rfl) rfl dX3_sale_119 ?_
                  refine z_iload C dX3_sale_122 7 rfl ?_
                  refine z_iload C dX3_sale_124 0 rfl ?_
                  refine z_if_eq C 146 dX3_sale_126 (by decide) (zeq_N0 (by omega)) (fun h9 => absurd h9 (by decide)) (fun c_126 => ?_)
                  refine z_aload_n C dX3_sale_129 2 rfl ?_
                  refine z_get C inX3_sale_X3 0 wM_o rfl 7 (by decide) (C.w 4 rfl) rfl dX3_sale_130 ?_
                  refine z_iload C dX3_sale_133 1 rfl ?_
                  refine z_ialdN C 3 wM_la (by omega) (by decide) dX3_sale_135 (v := iZ (la2 r)) rfl ?_
                  refine zW.top (y := nI (mLd a r 12)) (by rw [hld]; rfl) ?_
                  refine z_aload_n C dX3_sale_136 2 rfl ?_
                  refine z_iload_n C dX3_sale_137 4 rfl ?_
                  refine z_iconst C (nI 1) dX3_sale_138 (by decide) ?_
                  refine z_callV C (c_X3_bi_1 l g q th a la2 pe2 ga2 sz2 b (by omega)) (cwV 2 C.ts gX3_sale_X3_bi rfl rfl rfl (by decide +kernel) ⟨Nat.le_of_ble_eq_true rfl, Nat.le_of_ble_eq_true rfl⟩) wM_o rfl rfl rfl (Nat.le_of_ble_eq_true rfl) dX3_sale_139 ⟨Nat.zero_le _, Nat.zero_le _⟩ (z_i ?_)
                  have f_139 := ha.bu8 (b := b) (by omega)
                  refine z_ior C dX3_sale_142 (v := nI ((mLd a r 12) ||| (zBu a b))) (zor_NN (mLd a r 12) (zBu a b)) ?_
                  refine z_goto C 147 dX3_sale_143 (by decide) ?_
                  refine z_iastN C 3 wM_la (by omega) (by decide) dX3_sale_147 (wM_set_la (2 ^ b + r) (((mLd a r 12) ||| (zBu a b) : Nat) : Int)) ?_
                  refine z_aload_n C dX3_sale_148 2 rfl ?_
                  refine z_get C inX3_sale_X3 0 wM_o rfl 8 (by decide) (C.w 5 rfl) rfl dX3_sale_149 ?_
                  refine z_iload C dX3_sale_152 7 rfl ?_
                  refine z_aload_n C dX3_sale_154 2 rfl ?_
                  refine z_get C inX3_sale_X3 0 wM_o rfl 8 (by decide) (C.w 5 rfl) rfl dX3_sale_155 ?_
                  refine z_iload C dX3_sale_158 1 rfl ?_
                  refine z_ialdN C 4 wM_pe (by omega) (by decide) dX3_sale_160 (v := nI (pe2 r)) rfl ?_
                  refine z_iconst C (nI 1) dX3_sale_161 (by decide) ?_
                  refine z_aload_n C dX3_sale_162 2 rfl ?_
                  refine z_iload_n C dX3_sale_163 4 rfl ?_
                  refine z_iconst C (nI 0) dX3_sale_164 (by decide) ?_
                  refine z_callV C (c_X3_bi_0 l g q th a (va_up la2 (2 ^ b + r) (((mLd a r 12) ||| (zBu a b) : Nat) : Int)) pe2 ga2 sz2 b (by omega)) (cwV 2 C.ts gX3_sale_X3_bi rfl rfl rfl (by decide +kernel) ⟨Nat.le_of_ble_eq_true rfl, Nat.le_of_ble_eq_true rfl⟩) wM_o rfl rfl rfl (Nat.le_of_ble_eq_true rfl) dX3_sale_165 ⟨Nat.zero_le _, Nat.zero_le _⟩ (z_i ?_)
                  have f_165 := ha.ow (b := b) (by omega)
                  refine z_ishl C dX3_sale_168 (v := nI (2 ^ (zOw a b))) (zshl_1N (by omega)) ?_
                  refine z_ior C dX3_sale_169 (v := nI ((pe2 r) ||| (2 ^ (zOw a b)))) (zor_NN (pe2 r) (2 ^ (zOw a b))) ?_
                  refine z_iastN C 4 wM_pe (by omega) (by decide) dX3_sale_170 (wM_set_pe (2 ^ b + r) ((pe2 r) ||| (2 ^ (zOw a b)))) ?_
                  refine z_aload_n C dX3_sale_171 2 rfl ?_
                  refine z_get C inX3_sale_X3 0 wM_o rfl 9 (by decide) (C.w 1 rfl) rfl dX3_sale_172 ?_
                  refine z_iload C dX3_sale_175 7 rfl ?_
                  refine z_aload_n C dX3_sale_177 2 rfl ?_
                  refine z_get C inX3_sale_X3 0 wM_o rfl 9 (by decide) (C.w 1 rfl) rfl dX3_sale_178 ?_
                  refine z_iload C dX3_sale_181 1 rfl ?_
                  refine z_ialdN C 5 wM_ga (by omega) (by decide) dX3_sale_183 (v := iZ (ga2 r)) rfl ?_
                  refine z_iload C dX3_sale_184 6 rfl ?_
                  refine z_iadd C dX3_sale_186 (v := iZ ((ga2 r) + (zGn a b))) (iZ_add (ga2 r) (zGn a b)) ?_
                  refine z_iastN C 5 wM_ga (by omega) (by decide) dX3_sale_187 (wM_set_ga (2 ^ b + r) ((ga2 r) + (zGn a b))) ?_
                  refine z_aload_n C dX3_sale_188 2 rfl ?_
                  refine z_get C inX3_sale_X3 0 wM_o rfl 10 (by decide) (C.w 2 rfl) rfl dX3_sale_189 ?_
                  refine z_iload C dX3_sale_192 7 rfl ?_
                  refine z_aload_n C dX3_sale_194 2 rfl ?_
                  refine z_get C inX3_sale_X3 0 wM_o rfl 10 (by decide) (C.w 2 rfl) rfl dX3_sale_195 ?_
                  refine z_iload C dX3_sale_198 1 rfl ?_
                  refine z_ialdN C 6 wM_sz (by omega) (by decide) dX3_sale_200 (v := nI (sz2 r)) rfl ?_
                  refine z_iconst C (nI 1) dX3_sale_201 (by decide) ?_
                  refine z_iadd C dX3_sale_202 (v := nI ((sz2 r) + 1)) (nI_add (sz2 r) 1) ?_
                  refine z_iastN C 6 wM_sz (by omega) (by decide) dX3_sale_203 (wM_set_sz (2 ^ b + r) ((sz2 r) + 1)) ?_
                  have hX : (((mLd a r 12 ||| zBu a b : Nat) : Int) : Int) = mLa a (2 ^ b + r) := by unfold mLa; rw [hfs, a1, if_pos rfl]
                  have hI3 := mIv_s hI2 hX (show pe2 r ||| 2 ^ zOw a b = _ by rw [q2]; exact a2.symm) (show ga2 r + zGn a b = _ by rw [q3]; exact a3.symm) (show sz2 r + 1 = _ by rw [q4]; exact a5.symm)
                  have g1 := mGa_bnd ha hSn
                  have g2 := mGa_bnd ha (Nat.lt_trans hbu hSn)
                  have p1 := zPop_le (2 ^ b + r) 12
                  have p2 := zPop_le (mBU a (2 ^ b + r)) 12
                  refine z_iload C dX3_sale_204 0 rfl ?_
                  refine z_if_eq C 260 dX3_sale_206 (by decide) (zeq_N0 (by omega)) (fun h9 => absurd h9 (by decide)) (fun c_206 => ?_)
                  refine z_aload_n C dX3_sale_209 2 rfl ?_
                  refine z_get C inX3_sale_X3 0 wM_o rfl 9 (by decide) (C.w 1 rfl) rfl dX3_sale_210 ?_
                  refine z_iload C dX3_sale_213 7 rfl ?_
                  refine z_ialdN C 5 wM_ga (by omega) (by decide) dX3_sale_215 (v := iZ ((va_up ga2 (2 ^ b + r) ((ga2 r) + (zGn a b))) (2 ^ b + r))) rfl ?_
                  refine zW.top (y := iZ (mGa a (2 ^ b + r))) (congrArg iZ (hI3 _ (by omega)).2.2.1) ?_
                  refine z_aload_n C dX3_sale_216 2 rfl ?_
                  refine z_get C inX3_sale_X3 0 wM_o rfl 9 (by decide) (C.w 1 rfl) rfl dX3_sale_217 ?_
                  refine z_iload_n C dX3_sale_220 3 rfl ?_
                  refine z_ialdN C 5 wM_ga (by omega) (by decide) dX3_sale_221 (v := iZ ((va_up ga2 (2 ^ b + r) ((ga2 r) + (zGn a b))) (mBU a (2 ^ b + r)))) rfl ?_
                  refine zW.top (y := iZ (mGa a (mBU a (2 ^ b + r)))) (congrArg iZ (hI3 _ (by omega)).2.2.1) ?_
                  refine z_icmp_gt C 257 dX3_sale_222 (by decide) (zlt_ZZ (x := (mGa a (mBU a (2 ^ b + r)))) (y := (mGa a (2 ^ b + r))) (by unfold zB31; omega) (by unfold zB31; omega)) (fun c_222 => ?_) (fun c_222 => ?_)
                  · skip
                    refine z_iload C dX3_sale_257 7 rfl ?_
                    refine z_istore_n C dX3_sale_259 (by decide) [(1, .int (nI (2 ^ b + r))), (7, .int (nI 1)), (6, .int (nI r)), (0, .ref (q 0)), (2, .int (nI b)), (3, .int (bI (zCn a (zOu a) b))), (4, .int (iZ (zGn a b))), (5, .int (nI (2 ^ b + r)))] rfl ?_
                    have hbt : mBtr a (2 ^ b + r) (mBU a (2 ^ b + r)) = true := by unfold mBtr; first | (rw [if_pos c_222]; done) | (rw [if_neg c_222, if_pos c_238]; exact decide_eq_true (by omega))
                    have hbs : mBU a (2 ^ b + (r + 1)) = 2 ^ b + r := by rw [← Nat.add_assoc, mBU_s, if_pos ⟨hfs, hbt⟩]
                    refine z_iinc C dX3_sale_260 7 (nI (2 ^ b + r + 1)) rfl (nI_add (2 ^ b + r) 1) (by decide) [(5, .int (nI (2 ^ b + r + 1))), (1, .int (nI (2 ^ b + r))), (7, .int (nI 1)), (6, .int (nI r)), (0, .ref (q 0)), (2, .int (nI b)), (3, .int (bI (zCn a (zOu a) b))), (4, .int (iZ (zGn a b)))] rfl ?_
                    refine z_goto C 44 dX3_sale_263 (by decide) ?_
                    refine zW.pick (lv' := [(0, .ref (q 0)), (1, .int (nI (2 ^ b + r))), (2, .int (nI b)), (3, .int (bI (zCn a (zOu a) b))), (4, .int (iZ (zGn a b))), (5, .int (nI (2 ^ b + r + 1)))]) [4, 1, 5, 6, 7, 0] rfl ?_
                    refine zW.lve (lv' := [(0, .ref (q 0)), (1, .int (nI (mBU a (2 ^ b + (r + 1))))), (2, .int (nI b)), (3, .int (bI (zCn a (zOu a) b))), (4, .int (iZ (zGn a b))), (5, .int (nI (2 ^ b + (r + 1))))]) (by rw [hbs, ← Nat.add_assoc]) ?_
                    exact ih44 (r + 1) (va_up la2 (2 ^ b + r) (((mLd a r 12) ||| (zBu a b) : Nat) : Int)) (va_up pe2 (2 ^ b + r) ((pe2 r) ||| (2 ^ (zOw a b)))) (va_up ga2 (2 ^ b + r) ((ga2 r) + (zGn a b))) (va_up sz2 (2 ^ b + r) ((sz2 r) + 1)) (by omega) hI3 (zM0_s hz2 (by omega))
                  · skip
                    refine z_aload_n C dX3_sale_225 2 rfl ?_
                    refine z_get C inX3_sale_X3 0 wM_o rfl 9 (by decide) (C.w 1 rfl) rfl dX3_sale_226 ?_
                    refine z_iload C dX3_sale_229 7 rfl ?_
                    refine z_ialdN C 5 wM_ga (by omega) (by decide) dX3_sale_231 (v := iZ ((va_up ga2 (2 ^ b + r) ((ga2 r) + (zGn a b))) (2 ^ b + r))) rfl ?_
                    refine zW.top (y := iZ (mGa a (2 ^ b + r))) (congrArg iZ (hI3 _ (by omega)).2.2.1) ?_
                    refine z_aload_n C dX3_sale_232 2 rfl ?_
                    refine z_get C inX3_sale_X3 0 wM_o rfl 9 (by decide) (C.w 1 rfl) rfl dX3_sale_233 ?_
                    refine z_iload_n C dX3_sale_236 3 rfl ?_
                    refine z_ialdN C 5 wM_ga (by omega) (by decide) dX3_sale_237 (v := iZ ((va_up ga2 (2 ^ b + r) ((ga2 r) + (zGn a b))) (mBU a (2 ^ b + r)))) rfl ?_
                    refine zW.top (y := iZ (mGa a (mBU a (2 ^ b + r)))) (congrArg iZ (hI3 _ (by omega)).2.2.1) ?_
                    refine z_icmp_ne C 260 dX3_sale_238 (by decide) (zeq_ZZ (x := (mGa a (2 ^ b + r))) (y := (mGa a (mBU a (2 ^ b + r)))) (by unfold zB31; omega) (by unfold zB31; omega)) (fun c_238 => ?_) (fun c_238 => ?_)
                    · skip
                      have hbt : mBtr a (2 ^ b + r) (mBU a (2 ^ b + r)) = false := by unfold mBtr; first | (rw [if_neg c_222, if_neg c_238]; done) | (rw [if_neg c_222, if_pos c_238]; exact decide_eq_false (by omega))
                      have hbs : mBU a (2 ^ b + (r + 1)) = mBU a (2 ^ b + r) := by rw [← Nat.add_assoc, mBU_s, if_neg (by rw [hbt]; simp)]
                      refine z_iinc C dX3_sale_260 7 (nI (2 ^ b + r + 1)) rfl (nI_add (2 ^ b + r) 1) (by decide) [(5, .int (nI (2 ^ b + r + 1))), (7, .int (nI 1)), (6, .int (nI r)), (0, .ref (q 0)), (1, .int (nI (mBU a (2 ^ b + r)))), (2, .int (nI b)), (3, .int (bI (zCn a (zOu a) b))), (4, .int (iZ (zGn a b)))] rfl ?_
                      refine z_goto C 44 dX3_sale_263 (by decide) ?_
                      refine zW.pick (lv' := [(0, .ref (q 0)), (1, .int (nI (mBU a (2 ^ b + r)))), (2, .int (nI b)), (3, .int (bI (zCn a (zOu a) b))), (4, .int (iZ (zGn a b))), (5, .int (nI (2 ^ b + r + 1)))]) [3, 4, 5, 6, 7, 0] rfl ?_
                      refine zW.lve (lv' := [(0, .ref (q 0)), (1, .int (nI (mBU a (2 ^ b + (r + 1))))), (2, .int (nI b)), (3, .int (bI (zCn a (zOu a) b))), (4, .int (iZ (zGn a b))), (5, .int (nI (2 ^ b + (r + 1))))]) (by rw [hbs, ← Nat.add_assoc]) ?_
                      exact ih44 (r + 1) (va_up la2 (2 ^ b + r) (((mLd a r 12) ||| (zBu a b) : Nat) : Int)) (va_up pe2 (2 ^ b + r) ((pe2 r) ||| (2 ^ (zOw a b)))) (va_up ga2 (2 ^ b + r) ((ga2 r) + (zGn a b))) (va_up sz2 (2 ^ b + r) ((sz2 r) + 1)) (by omega) hI3 (zM0_s hz2 (by omega))
                    · skip
                      refine z_aload_n C dX3_sale_241 2 rfl ?_
                      refine z_get C inX3_sale_X3 0 wM_o rfl 10 (by decide) (C.w 2 rfl) rfl dX3_sale_242 ?_
                      refine z_iload C dX3_sale_245 7 rfl ?_
                      refine z_ialdN C 6 wM_sz (by omega) (by decide) dX3_sale_247 (v := nI ((va_up sz2 (2 ^ b + r) ((sz2 r) + 1)) (2 ^ b + r))) rfl ?_
                      refine zW.top (y := nI (zPop (2 ^ b + r) 12)) (congrArg nI (hI3 _ (by omega)).2.2.2) ?_
                      refine z_aload_n C dX3_sale_248 2 rfl ?_
                      refine z_get C inX3_sale_X3 0 wM_o rfl 10 (by decide) (C.w 2 rfl) rfl dX3_sale_249 ?_
                      refine z_iload_n C dX3_sale_252 3 rfl ?_
                      refine z_ialdN C 6 wM_sz (by omega) (by decide) dX3_sale_253 (v := nI ((va_up sz2 (2 ^ b + r) ((sz2 r) + 1)) (mBU a (2 ^ b + r)))) rfl ?_
                      refine zW.top (y := nI (zPop (mBU a (2 ^ b + r)) 12)) (congrArg nI (hI3 _ (by omega)).2.2.2) ?_
                      refine z_icmp_le C 260 dX3_sale_254 (by decide) (zle_NN (by omega) (by omega)) (fun c_254 => ?_) (fun c_254 => ?_)
                      · skip
                        have hbt : mBtr a (2 ^ b + r) (mBU a (2 ^ b + r)) = false := by unfold mBtr; first | (rw [if_neg c_222, if_neg c_238]; done) | (rw [if_neg c_222, if_pos c_238]; exact decide_eq_false (by omega))
                        have hbs : mBU a (2 ^ b + (r + 1)) = mBU a (2 ^ b + r) := by rw [← Nat.add_assoc, mBU_s, if_neg (by rw [hbt]; simp)]
                        refine z_iinc C dX3_sale_260 7 (nI (2 ^ b + r + 1)) rfl (nI_add (2 ^ b + r) 1) (by decide) [(5, .int (nI (2 ^ b + r + 1))), (7, .int (nI 1)), (6, .int (nI r)), (0, .ref (q 0)), (1, .int (nI (mBU a (2 ^ b + r)))), (2, .int (nI b)), (3, .int (bI (zCn a (zOu a) b))), (4, .int (iZ (zGn a b)))] rfl ?_
                        refine z_goto C 44 dX3_sale_263 (by decide) ?_
                        refine zW.pick (lv' := [(0, .ref (q 0)), (1, .int (nI (mBU a (2 ^ b + r)))), (2, .int (nI b)), (3, .int (bI (zCn a (zOu a) b))), (4, .int (iZ (zGn a b))), (5, .int (nI (2 ^ b + r + 1)))]) [3, 4, 5, 6, 7, 0] rfl ?_
                        refine zW.lve (lv' := [(0, .ref (q 0)), (1, .int (nI (mBU a (2 ^ b + (r + 1))))), (2, .int (nI b)), (3, .int (bI (zCn a (zOu a) b))), (4, .int (iZ (zGn a b))), (5, .int (nI (2 ^ b + (r + 1))))]) (by rw [hbs, ← Nat.add_assoc]) ?_
                        exact ih44 (r + 1) (va_up la2 (2 ^ b + r) (((mLd a r 12) ||| (zBu a b) : Nat) : Int)) (va_up pe2 (2 ^ b + r) ((pe2 r) ||| (2 ^ (zOw a b)))) (va_up ga2 (2 ^ b + r) ((ga2 r) + (zGn a b))) (va_up sz2 (2 ^ b + r) ((sz2 r) + 1)) (by omega) hI3 (zM0_s hz2 (by omega))
                      · skip
                        refine z_iload C dX3_sale_257 7 rfl ?_
                        refine z_istore_n C dX3_sale_259 (by decide) [(1, .int (nI (2 ^ b + r))), (7, .int (nI 1)), (6, .int (nI r)), (0, .ref (q 0)), (2, .int (nI b)), (3, .int (bI (zCn a (zOu a) b))), (4, .int (iZ (zGn a b))), (5, .int (nI (2 ^ b + r)))] rfl ?_
                        have hbt : mBtr a (2 ^ b + r) (mBU a (2 ^ b + r)) = true := by unfold mBtr; first | (rw [if_pos c_222]; done) | (rw [if_neg c_222, if_pos c_238]; exact decide_eq_true (by omega))
                        have hbs : mBU a (2 ^ b + (r + 1)) = 2 ^ b + r := by rw [← Nat.add_assoc, mBU_s, if_pos ⟨hfs, hbt⟩]
                        refine z_iinc C dX3_sale_260 7 (nI (2 ^ b + r + 1)) rfl (nI_add (2 ^ b + r) 1) (by decide) [(5, .int (nI (2 ^ b + r + 1))), (1, .int (nI (2 ^ b + r))), (7, .int (nI 1)), (6, .int (nI r)), (0, .ref (q 0)), (2, .int (nI b)), (3, .int (bI (zCn a (zOu a) b))), (4, .int (iZ (zGn a b)))] rfl ?_
                        refine z_goto C 44 dX3_sale_263 (by decide) ?_
                        refine zW.pick (lv' := [(0, .ref (q 0)), (1, .int (nI (2 ^ b + r))), (2, .int (nI b)), (3, .int (bI (zCn a (zOu a) b))), (4, .int (iZ (zGn a b))), (5, .int (nI (2 ^ b + r + 1)))]) [4, 1, 5, 6, 7, 0] rfl ?_
                        refine zW.lve (lv' := [(0, .ref (q 0)), (1, .int (nI (mBU a (2 ^ b + (r + 1))))), (2, .int (nI b)), (3, .int (bI (zCn a (zOu a) b))), (4, .int (iZ (zGn a b))), (5, .int (nI (2 ^ b + (r + 1))))]) (by rw [hbs, ← Nat.add_assoc]) ?_
                        exact ih44 (r + 1) (va_up la2 (2 ^ b + r) (((mLd a r 12) ||| (zBu a b) : Nat) : Int)) (va_up pe2 (2 ^ b + r) ((pe2 r) ||| (2 ^ (zOw a b)))) (va_up ga2 (2 ^ b + r) ((ga2 r) + (zGn a b))) (va_up sz2 (2 ^ b + r) ((sz2 r) + 1)) (by omega) hI3 (zM0_s hz2 (by omega))
      exact hlp44 (2 ^ b) 0 la1 pe1 ga1 sz1 (by omega) hI1 hz1
  refine zW.lve (lv' := [(0, .ref (q 0)), (1, .int (nI (mBU a (2 ^ 0)))), (2, .int (nI 0))]) (by rw [show (2 : Nat) ^ 0 = 1 from rfl, mBU_1]) ?_
  exact hlp18 (zNb a) 0 la pe (va_up ga 0 0) (va_up sz 0 0) (by omega) (mIv_1 h0) h0
