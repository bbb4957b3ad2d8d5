theorem zRw_setPr (a : zS) (b x : Nat) : va_up (zRw a) (5 * b + 2) x = zRw (zSetPr a b x) := by
  funext k
  unfold zRw
  show _ = if k % 5 = 0 then _ else if k % 5 = 1 then _ else if k % 5 = 2 then va_up (zPr a) b x (k / 5) else if k % 5 = 3 then _ else _
  by_cases h : k = 5 * b + 2
  · subst h
    rw [va_up_self, if_neg (by omega), if_neg (by omega), if_pos (by omega), show (5 * b + 2) / 5 = b by omega, va_up_self]
  · rw [va_up_ne _ _ h]
    by_cases h2 : k % 5 = 2
    · rw [if_neg (by omega), if_neg (by omega), if_pos h2, if_neg (by omega), if_neg (by omega), if_pos h2, va_up_ne _ _ (by omega)]
    · rw [if_neg h2, if_neg h2]; rfl
theorem zRw_setWo (a : zS) (b x : Nat) : va_up (zRw a) (5 * b + 3) x = zRw (zSetWo a b x) := by
  funext k
  unfold zRw
  show _ = if k % 5 = 0 then _ else if k % 5 = 1 then _ else if k % 5 = 2 then _ else if k % 5 = 3 then va_up (zWo a) b x (k / 5) else _
  by_cases h : k = 5 * b + 3
  · subst h
    rw [va_up_self, if_neg (by omega), if_neg (by omega), if_neg (by omega), if_pos (by omega), show (5 * b + 3) / 5 = b by omega, va_up_self]
  · rw [va_up_ne _ _ h]
    by_cases h2 : k % 5 = 3
    · rw [if_neg (by omega), if_neg (by omega), if_neg (by omega), if_pos h2, if_neg (by omega), if_neg (by omega), if_neg (by omega), if_pos h2, va_up_ne _ _ (by omega)]
    · rw [if_neg h2, if_neg h2]; rfl
theorem zRw_setGo (a : zS) (b x : Nat) : va_up (zRw a) (5 * b + 4) x = zRw (zSetGo a b x) := by
  funext k
  unfold zRw
  show _ = if k % 5 = 0 then _ else if k % 5 = 1 then _ else if k % 5 = 2 then _ else if k % 5 = 3 then _ else va_up (zGo a) b x (k / 5)
  by_cases h : k = 5 * b + 4
  · subst h
    rw [va_up_self, if_neg (by omega), if_neg (by omega), if_neg (by omega), if_neg (by omega), show (5 * b + 4) / 5 = b by omega, va_up_self]
  · rw [va_up_ne _ _ h]
    by_cases h2 : k % 5 = 0 ∨ k % 5 = 1 ∨ k % 5 = 2 ∨ k % 5 = 3
    · rcases h2 with e | e | e | e <;> (simp [e]; try rfl)
    · rw [if_neg (by omega), if_neg (by omega), if_neg (by omega), if_neg (by omega), if_neg (by omega), if_neg (by omega), if_neg (by omega), if_neg (by omega), va_up_ne _ _ (by omega)]
section WMR
variable {g : zG} {q : Nat → Nat} {th : Int} {a : zS} {la : Nat → Int} {pe : Nat → Nat} {ga : Nat → Int} {sz : Nat → Nat}
theorem wM_set_pr (b x : Nat) : (wM g q th a la pe ga sz).set 2 (q 2, .inl (zI g, 60, .inl (upd (fun k => nI (zRw a k)) (5 * b + 2) (nI x)))) = wM g q th (zSetPr a b x) la pe ga sz := by rw [zup_N, zRw_setPr]; rfl
theorem wM_set_wo (b x : Nat) : (wM g q th a la pe ga sz).set 2 (q 2, .inl (zI g, 60, .inl (upd (fun k => nI (zRw a k)) (5 * b + 3) (nI x)))) = wM g q th (zSetWo a b x) la pe ga sz := by rw [zup_N, zRw_setWo]; rfl
theorem wM_set_go (b x : Nat) : (wM g q th a la pe ga sz).set 2 (q 2, .inl (zI g, 60, .inl (upd (fun k => nI (zRw a k)) (5 * b + 4) (nI x)))) = wM g q th (zSetGo a b x) la pe ga sz := by rw [zup_N, zRw_setGo]; rfl
end WMR
theorem inX3_tried_X3 : ∀ w ∈ wsX30, w ∈ wsX3_tried := fun w h => List.mem_cons_of_mem _ (List.mem_append_right _ (h))
set_option maxRecDepth 100000 in
set_option maxHeartbeats 4000000 in
theorem c_X3_tried_0 (l : Launch) (g : zG) (q : Nat → Nat) (th : Int) (a : zS) (la : Nat → Int) (pe : Nat → Nat) (ga : Nat → Int) (sz : Nat → Nat) (ha : zOk a) (h0 : zM0 la pe) (b x : Nat) (hb : b < zNb a) (hx : zOk (zSetPr a b x)) : zM g l yX3_tried wsX3_tried { frames := 8, cells := 0, slots := 0, locals := 182 } [.ref (q 0), .int (nI b), .int (nI x), .int (nI 0)] (wM g q th a la pe ga sz) (zPie (bI (aWins a b x)) (zMw g q th a)) 0 0 := by
  refine zM.of (cc := cX3_tried) (nL := 6) (ret := (some .int)) (lv := [(0, .ref (q 0)), (1, .int (nI b)), (2, .int (nI x)), (3, .int (nI 0))]) (by decide) rfl (Nat.le_of_ble_eq_true rfl) rfl ?_
  intro E C0 hi
  have C : zC g E cX3_tried RX3 wsX3_tried 6 (some .int) := C0
  obtain ⟨hnf, hnd, hnb, hou, hrs, hbd⟩ := id ha
  have hb12 := mBest_4096 hx
  have how := ha.ow hb
  have hnb1 : zNb (zSetPr a b x) = zNb a := rfl
  refine z_aload_n C dX3_tried_0 0 rfl ?_
  refine z_iload_n C dX3_tried_1 1 rfl ?_
  refine z_iconst C (nI 2) dX3_tried_2 (by decide) ?_
  refine z_callV C (c_X3_bi_2 l g q th a la pe ga sz b (by omega)) (cwV 2 C.ts gX3_tried_X3_bi rfl rfl rfl (by decide +kernel) ⟨Nat.le_of_ble_eq_true rfl, Nat.le_of_ble_eq_true rfl⟩) wM_o rfl rfl rfl (Nat.le_of_ble_eq_true rfl) dX3_tried_3 ⟨Nat.zero_le _, Nat.zero_le _⟩ (z_i ?_)
  have f_3 := ha.pr (b := b) (by omega)
  refine z_istore C dX3_tried_6 (by decide) [(4, .int (nI (zPr a b))), (0, .ref (q 0)), (1, .int (nI b)), (2, .int (nI x)), (3, .int (nI 0))] rfl ?_
  refine z_aload_n C dX3_tried_8 1 rfl ?_
  refine z_get C inX3_tried_X3 0 wM_o rfl 6 (by decide) (C.w 1 rfl) rfl dX3_tried_9 ?_
  refine z_iconst C (nI 5) dX3_tried_12 (by decide) ?_
  refine z_iload_n C dX3_tried_13 2 rfl ?_
  refine z_imul C dX3_tried_14 (v := nI (5 * b)) (pk_mul 5 b) ?_
  refine z_iconst C (nI 2) dX3_tried_15 (by decide) ?_
  refine z_iadd C dX3_tried_16 (v := nI ((5 * b) + 2)) (nI_add (5 * b) 2) ?_
  refine z_iload_n C dX3_tried_17 3 rfl ?_
  refine z_iastN C 2 wM_rw (by omega) (by decide) dX3_tried_18 (wM_set_pr b x) ?_
  refine z_iload_n C dX3_tried_19 4 rfl ?_
  refine z_if_ne C 34 dX3_tried_20 (by decide) (zeq_N0 (by omega)) (fun h9 => absurd (by decide) h9) (fun c_20 => ?_)
  refine z_aload_n C dX3_tried_23 1 rfl ?_
  refine z_callV C (c_X3_sale l g q th (zSetPr a b x) la pe ga sz hx h0) (cwV 0 C.ts gX3_tried_X3_sale rfl rfl rfl (by decide +kernel) ⟨Nat.le_of_ble_eq_true rfl, Nat.le_of_ble_eq_true rfl⟩) wM_o rfl rfl rfl (Nat.le_of_ble_eq_true rfl) dX3_tried_24 ⟨Nat.zero_le _, Nat.zero_le _⟩ (z_ie ?_)
  rintro _ ⟨la24, pe24, ga24, sz24, rfl, hz24, hG24⟩
  refine z_iload_n C dX3_tried_27 2 rfl ?_
  refine z_callS C (c_X3_bit l g (wM g q th (zSetPr a b x) la24 pe24 ga24 sz24) (mBest (zSetPr a b x)) b (by omega) (by omega)) (va_cwS 2 C.ts gX3_tried_X3_bit rfl rfl rfl (by decide +kernel) ⟨Nat.le_of_ble_eq_true rfl, Nat.le_of_ble_eq_true rfl⟩) rfl rfl (Nat.le_of_ble_eq_true rfl) dX3_tried_28 ⟨Nat.zero_le _, Nat.zero_le _⟩ (z_i ?_)
  rw [← aWins_best hx]
  refine z_goto C 79 dX3_tried_31 (by decide) ?_
  refine z_istore C dX3_tried_79 (by decide) [(5, .int (bI (aWins a b x))), (4, .int (nI (zPr a b))), (0, .ref (q 0)), (1, .int (nI b)), (2, .int (nI x)), (3, .int (nI 0))] rfl ?_
  refine z_aload_n C dX3_tried_81 2 rfl ?_
  refine z_get C inX3_tried_X3 0 wM_o rfl 6 (by decide) (C.w 1 rfl) rfl dX3_tried_82 ?_
  refine z_iconst C (nI 5) dX3_tried_85 (by decide) ?_
  refine z_iload_n C dX3_tried_86 3 rfl ?_
  refine z_imul C dX3_tried_87 (v := nI (5 * b)) (pk_mul 5 b) ?_
  refine z_iconst C (nI 2) dX3_tried_88 (by decide) ?_
  refine z_iadd C dX3_tried_89 (v := nI ((5 * b) + 2)) (nI_add (5 * b) 2) ?_
  refine z_iload C dX3_tried_90 1 rfl ?_
  refine z_iastN C 2 wM_rw (by omega) (by decide) dX3_tried_92 (wM_set_pr b (zPr a b)) ?_
  rw [zSetPr_back]
  refine z_iload C dX3_tried_93 0 rfl ?_
  exact z_iretE C dX3_tried_95 rfl ⟨_, _, _, _, rfl, hz24⟩
set_option maxRecDepth 100000 in
set_option maxHeartbeats 4000000 in
theorem c_X3_tried_1 (l : Launch) (g : zG) (q : Nat → Nat) (th : Int) (a : zS) (la : Nat → Int) (pe : Nat → Nat) (ga : Nat → Int) (sz : Nat → Nat) (ha : zOk a) (h0 : zM0 la pe) (b x : Nat) (hb : b < zNb a) (hx : zOk (zSetPr a b x)) : zM g l yX3_tried wsX3_tried { frames := 8, cells := 0, slots := 0, locals := 182 } [.ref (q 0), .int (nI b), .int (nI x), .int (nI 1)] (wM g q th a la pe ga sz) (zPie (iZ (aPaid (zSetPr a b x) (zOw a b))) (zMw g q th a)) 0 0 := by
  refine zM.of (cc := cX3_tried) (nL := 6) (ret := (some .int)) (lv := [(0, .ref (q 0)), (1, .int (nI b)), (2, .int (nI x)), (3, .int (nI 1))]) (by decide) rfl (Nat.le_of_ble_eq_true rfl) rfl ?_
  intro E C0 hi
  have C : zC g E cX3_tried RX3 wsX3_tried 6 (some .int) := C0
  obtain ⟨hnf, hnd, hnb, hou, hrs, hbd⟩ := id ha
  have hb12 := mBest_4096 hx
  have how := ha.ow hb
  have hnb1 : zNb (zSetPr a b x) = zNb a := rfl
  refine z_aload_n C dX3_tried_0 0 rfl ?_
  refine z_iload_n C dX3_tried_1 1 rfl ?_
  refine z_iconst C (nI 2) dX3_tried_2 (by decide) ?_
  refine z_callV C (c_X3_bi_2 l g q th a la pe ga sz b (by omega)) (cwV 2 C.ts gX3_tried_X3_bi rfl rfl rfl (by decide +kernel) ⟨Nat.le_of_ble_eq_true rfl, Nat.le_of_ble_eq_true rfl⟩) wM_o rfl rfl rfl (Nat.le_of_ble_eq_true rfl) dX3_tried_3 ⟨Nat.zero_le _, Nat.zero_le _⟩ (z_i ?_)
  have f_3 := ha.pr (b := b) (by omega)
  refine z_istore C dX3_tried_6 (by decide) [(4, .int (nI (zPr a b))), (0, .ref (q 0)), (1, .int (nI b)), (2, .int (nI x)), (3, .int (nI 1))] rfl ?_
  refine z_aload_n C dX3_tried_8 1 rfl ?_
  refine z_get C inX3_tried_X3 0 wM_o rfl 6 (by decide) (C.w 1 rfl) rfl dX3_tried_9 ?_
  refine z_iconst C (nI 5) dX3_tried_12 (by decide) ?_
  refine z_iload_n C dX3_tried_13 2 rfl ?_
  refine z_imul C dX3_tried_14 (v := nI (5 * b)) (pk_mul 5 b) ?_
  refine z_iconst C (nI 2) dX3_tried_15 (by decide) ?_
  refine z_iadd C dX3_tried_16 (v := nI ((5 * b) + 2)) (nI_add (5 * b) 2) ?_
  refine z_iload_n C dX3_tried_17 3 rfl ?_
  refine z_iastN C 2 wM_rw (by omega) (by decide) dX3_tried_18 (wM_set_pr b x) ?_
  refine z_iload_n C dX3_tried_19 4 rfl ?_
  refine z_if_ne C 34 dX3_tried_20 (by decide) (zeq_N0 (by omega)) (fun c_20 => ?_) (fun h9 => absurd h9 (by decide))
  refine z_iload_n C dX3_tried_34 4 rfl ?_
  refine z_iconst C (nI 1) dX3_tried_35 (by decide) ?_
  refine z_icmp_ne C 52 dX3_tried_36 (by decide) (zeq_NN (by omega) (by omega)) (fun h9 => absurd (by decide) h9) (fun c_36 => ?_)
  refine z_aload_n C dX3_tried_39 1 rfl ?_
  refine z_aload_n C dX3_tried_40 1 rfl ?_
  refine z_iload_n C dX3_tried_41 2 rfl ?_
  refine z_iconst C (nI 0) dX3_tried_42 (by decide) ?_
  refine z_callV C (c_X3_bi_0 l g q th (zSetPr a b x) la pe ga sz b (by omega)) (cwV 2 C.ts gX3_tried_X3_bi rfl rfl rfl (by decide +kernel) ⟨Nat.le_of_ble_eq_true rfl, Nat.le_of_ble_eq_true rfl⟩) wM_o rfl rfl rfl (Nat.le_of_ble_eq_true rfl) dX3_tried_43 ⟨Nat.zero_le _, Nat.zero_le _⟩ (z_i ?_)
  have f_43 := hx.ow (b := b) (by omega)
  refine z_callV C (c_X3_paid l g q th (zSetPr a b x) la pe ga sz hx h0 (zOw (zSetPr a b x) b) (by omega)) (cwV 1 C.ts gX3_tried_X3_paid rfl rfl rfl (by decide +kernel) ⟨Nat.le_of_ble_eq_true rfl, Nat.le_of_ble_eq_true rfl⟩) wM_o rfl rfl rfl (Nat.le_of_ble_eq_true rfl) dX3_tried_46 ⟨Nat.zero_le _, Nat.zero_le _⟩ (z_ie ?_)
  rintro _ ⟨la46, pe46, ga46, sz46, rfl, hz46⟩
  refine z_goto C 79 dX3_tried_49 (by decide) ?_
  refine z_istore C dX3_tried_79 (by decide) [(5, .int (iZ (aPaid (zSetPr a b x) (zOw (zSetPr a b x) b)))), (4, .int (nI (zPr a b))), (0, .ref (q 0)), (1, .int (nI b)), (2, .int (nI x)), (3, .int (nI 1))] rfl ?_
  refine z_aload_n C dX3_tried_81 2 rfl ?_
  refine z_get C inX3_tried_X3 0 wM_o rfl 6 (by decide) (C.w 1 rfl) rfl dX3_tried_82 ?_
  refine z_iconst C (nI 5) dX3_tried_85 (by decide) ?_
  refine z_iload_n C dX3_tried_86 3 rfl ?_
  refine z_imul C dX3_tried_87 (v := nI (5 * b)) (pk_mul 5 b) ?_
  refine z_iconst C (nI 2) dX3_tried_88 (by decide) ?_
  refine z_iadd C dX3_tried_89 (v := nI ((5 * b) + 2)) (nI_add (5 * b) 2) ?_
  refine z_iload C dX3_tried_90 1 rfl ?_
  refine z_iastN C 2 wM_rw (by omega) (by decide) dX3_tried_92 (wM_set_pr b (zPr a b)) ?_
  rw [zSetPr_back]
  refine z_iload C dX3_tried_93 0 rfl ?_
  exact z_iretE C dX3_tried_95 rfl ⟨_, _, _, _, rfl, hz46⟩
set_option maxRecDepth 100000 in
set_option maxHeartbeats 4000000 in
theorem c_X3_tried_2 (l : Launch) (g : zG) (q : Nat → Nat) (th : Int) (a : zS) (la : Nat → Int) (pe : Nat → Nat) (ga : Nat → Int) (sz : Nat → Nat) (ha : zOk a) (h0 : zM0 la pe) (b x : Nat) (hb : b < zNb a) (hx : zOk (zSetPr a b x)) : zM g l yX3_tried wsX3_tried { frames := 8, cells := 0, slots := 0, locals := 182 } [.ref (q 0), .int (nI b), .int (nI x), .int (nI 2)] (wM g q th a la pe ga sz) (zPie (iZ (aProf (zSetPr a b x) (zOw a b))) (zMw g q th a)) 0 0 := by
  refine zM.of (cc := cX3_tried) (nL := 6) (ret := (some .int)) (lv := [(0, .ref (q 0)), (1, .int (nI b)), (2, .int (nI x)), (3, .int (nI 2))]) (by decide) rfl (Nat.le_of_ble_eq_true rfl) rfl ?_
  intro E C0 hi
  have C : zC g E cX3_tried RX3 wsX3_tried 6 (some .int) := C0
  obtain ⟨hnf, hnd, hnb, hou, hrs, hbd⟩ := id ha
  have hb12 := mBest_4096 hx
  have how := ha.ow hb
  have hnb1 : zNb (zSetPr a b x) = zNb a := rfl
  refine z_aload_n C dX3_tried_0 0 rfl ?_
  refine z_iload_n C dX3_tried_1 1 rfl ?_
  refine z_iconst C (nI 2) dX3_tried_2 (by decide) ?_
  refine z_callV C (c_X3_bi_2 l g q th a la pe ga sz b (by omega)) (cwV 2 C.ts gX3_tried_X3_bi rfl rfl rfl (by decide +kernel) ⟨Nat.le_of_ble_eq_true rfl, Nat.le_of_ble_eq_true rfl⟩) wM_o rfl rfl rfl (Nat.le_of_ble_eq_true rfl) dX3_tried_3 ⟨Nat.zero_le _, Nat.zero_le _⟩ (z_i ?_)
  have f_3 := ha.pr (b := b) (by omega)
  refine z_istore C dX3_tried_6 (by decide) [(4, .int (nI (zPr a b))), (0, .ref (q 0)), (1, .int (nI b)), (2, .int (nI x)), (3, .int (nI 2))] rfl ?_
  refine z_aload_n C dX3_tried_8 1 rfl ?_
  refine z_get C inX3_tried_X3 0 wM_o rfl 6 (by decide) (C.w 1 rfl) rfl dX3_tried_9 ?_
  refine z_iconst C (nI 5) dX3_tried_12 (by decide) ?_
  refine z_iload_n C dX3_tried_13 2 rfl ?_
  refine z_imul C dX3_tried_14 (v := nI (5 * b)) (pk_mul 5 b) ?_
  refine z_iconst C (nI 2) dX3_tried_15 (by decide) ?_
  refine z_iadd C dX3_tried_16 (v := nI ((5 * b) + 2)) (nI_add (5 * b) 2) ?_
  refine z_iload_n C dX3_tried_17 3 rfl ?_
  refine z_iastN C 2 wM_rw (by omega) (by decide) dX3_tried_18 (wM_set_pr b x) ?_
  refine z_iload_n C dX3_tried_19 4 rfl ?_
  refine z_if_ne C 34 dX3_tried_20 (by decide) (zeq_N0 (by omega)) (fun c_20 => ?_) (fun h9 => absurd h9 (by decide))
  refine z_iload_n C dX3_tried_34 4 rfl ?_
  refine z_iconst C (nI 1) dX3_tried_35 (by decide) ?_
  refine z_icmp_ne C 52 dX3_tried_36 (by decide) (zeq_NN (by omega) (by omega)) (fun c_36 => ?_) (fun h9 => absurd h9 (by decide))
  refine z_iload_n C dX3_tried_52 4 rfl ?_
  refine z_iconst C (nI 2) dX3_tried_53 (by decide) ?_
  refine z_icmp_ne C 70 dX3_tried_54 (by decide) (zeq_NN (by omega) (by omega)) (fun h9 => absurd (by decide) h9) (fun c_54 => ?_)
  refine z_aload_n C dX3_tried_57 1 rfl ?_
  refine z_aload_n C dX3_tried_58 1 rfl ?_
  refine z_iload_n C dX3_tried_59 2 rfl ?_
  refine z_iconst C (nI 0) dX3_tried_60 (by decide) ?_
  refine z_callV C (c_X3_bi_0 l g q th (zSetPr a b x) la pe ga sz b (by omega)) (cwV 2 C.ts gX3_tried_X3_bi rfl rfl rfl (by decide +kernel) ⟨Nat.le_of_ble_eq_true rfl, Nat.le_of_ble_eq_true rfl⟩) wM_o rfl rfl rfl (Nat.le_of_ble_eq_true rfl) dX3_tried_61 ⟨Nat.zero_le _, Nat.zero_le _⟩ (z_i ?_)
  have f_61 := hx.ow (b := b) (by omega)
  refine z_callV C (c_X3_profit l g q th (zSetPr a b x) la pe ga sz hx h0 (zOw (zSetPr a b x) b) (by omega)) (cwV 1 C.ts gX3_tried_X3_profit rfl rfl rfl (by decide +kernel) ⟨Nat.le_of_ble_eq_true rfl, Nat.le_of_ble_eq_true rfl⟩) wM_o rfl rfl rfl (Nat.le_of_ble_eq_true rfl) dX3_tried_64 ⟨Nat.zero_le _, Nat.zero_le _⟩ (z_ie ?_)
  rintro _ ⟨la64, pe64, ga64, sz64, rfl, hz64⟩
  refine z_goto C 79 dX3_tried_67 (by decide) ?_
  refine z_istore C dX3_tried_79 (by decide) [(5, .int (iZ (aProf (zSetPr a b x) (zOw (zSetPr a b x) b)))), (4, .int (nI (zPr a b))), (0, .ref (q 0)), (1, .int (nI b)), (2, .int (nI x)), (3, .int (nI 2))] rfl ?_
  refine z_aload_n C dX3_tried_81 2 rfl ?_
  refine z_get C inX3_tried_X3 0 wM_o rfl 6 (by decide) (C.w 1 rfl) rfl dX3_tried_82 ?_
  refine z_iconst C (nI 5) dX3_tried_85 (by decide) ?_
  refine z_iload_n C dX3_tried_86 3 rfl ?_
  refine z_imul C dX3_tried_87 (v := nI (5 * b)) (pk_mul 5 b) ?_
  refine z_iconst C (nI 2) dX3_tried_88 (by decide) ?_
  refine z_iadd C dX3_tried_89 (v := nI ((5 * b) + 2)) (nI_add (5 * b) 2) ?_
  refine z_iload C dX3_tried_90 1 rfl ?_
  refine z_iastN C 2 wM_rw (by omega) (by decide) dX3_tried_92 (wM_set_pr b (zPr a b)) ?_
  rw [zSetPr_back]
  refine z_iload C dX3_tried_93 0 rfl ?_
  exact z_iretE C dX3_tried_95 rfl ⟨_, _, _, _, rfl, hz64⟩
set_option maxRecDepth 100000 in
set_option maxHeartbeats 4000000 in
theorem c_X3_tried_3 (l : Launch) (g : zG) (q : Nat → Nat) (th : Int) (a : zS) (la : Nat → Int) (pe : Nat → Nat) (ga : Nat → Int) (sz : Nat → Nat) (ha : zOk a) (h0 : zM0 la pe) (b x : Nat) (hb : b < zNb a) (hx : zOk (zSetPr a b x)) : zM g l yX3_tried wsX3_tried { frames := 8, cells := 0, slots := 0, locals := 182 } [.ref (q 0), .int (nI b), .int (nI x), .int (nI 3)] (wM g q th a la pe ga sz) (zPie (iZ ((zFw (zSetPr a b x) 0).1)) (zMw g q th a)) 0 0 := by
  refine zM.of (cc := cX3_tried) (nL := 6) (ret := (some .int)) (lv := [(0, .ref (q 0)), (1, .int (nI b)), (2, .int (nI x)), (3, .int (nI 3))]) (by decide) rfl (Nat.le_of_ble_eq_true rfl) rfl ?_
  intro E C0 hi
  have C : zC g E cX3_tried RX3 wsX3_tried 6 (some .int) := C0
  obtain ⟨hnf, hnd, hnb, hou, hrs, hbd⟩ := id ha
  have hb12 := mBest_4096 hx
  have how := ha.ow hb
  have hnb1 : zNb (zSetPr a b x) = zNb a := rfl
  refine z_aload_n C dX3_tried_0 0 rfl ?_
  refine z_iload_n C dX3_tried_1 1 rfl ?_
  refine z_iconst C (nI 2) dX3_tried_2 (by decide) ?_
  refine z_callV C (c_X3_bi_2 l g q th a la pe ga sz b (by omega)) (cwV 2 C.ts gX3_tried_X3_bi rfl rfl rfl (by decide +kernel) ⟨Nat.le_of_ble_eq_true rfl, Nat.le_of_ble_eq_true rfl⟩) wM_o rfl rfl rfl (Nat.le_of_ble_eq_true rfl) dX3_tried_3 ⟨Nat.zero_le _, Nat.zero_le _⟩ (z_i ?_)
  have f_3 := ha.pr (b := b) (by omega)
  refine z_istore C dX3_tried_6 (by decide) [(4, .int (nI (zPr a b))), (0, .ref (q 0)), (1, .int (nI b)), (2, .int (nI x)), (3, .int (nI 3))] rfl ?_
  refine z_aload_n C dX3_tried_8 1 rfl ?_
  refine z_get C inX3_tried_X3 0 wM_o rfl 6 (by decide) (C.w 1 rfl) rfl dX3_tried_9 ?_
  refine z_iconst C (nI 5) dX3_tried_12 (by decide) ?_
  refine z_iload_n C dX3_tried_13 2 rfl ?_
  refine z_imul C dX3_tried_14 (v := nI (5 * b)) (pk_mul 5 b) ?_
  refine z_iconst C (nI 2) dX3_tried_15 (by decide) ?_
  refine z_iadd C dX3_tried_16 (v := nI ((5 * b) + 2)) (nI_add (5 * b) 2) ?_
  refine z_iload_n C dX3_tried_17 3 rfl ?_
  refine z_iastN C 2 wM_rw (by omega) (by decide) dX3_tried_18 (wM_set_pr b x) ?_
  refine z_iload_n C dX3_tried_19 4 rfl ?_
  refine z_if_ne C 34 dX3_tried_20 (by decide) (zeq_N0 (by omega)) (fun c_20 => ?_) (fun h9 => absurd h9 (by decide))
  refine z_iload_n C dX3_tried_34 4 rfl ?_
  refine z_iconst C (nI 1) dX3_tried_35 (by decide) ?_
  refine z_icmp_ne C 52 dX3_tried_36 (by decide) (zeq_NN (by omega) (by omega)) (fun c_36 => ?_) (fun h9 => absurd h9 (by decide))
  refine z_iload_n C dX3_tried_52 4 rfl ?_
  refine z_iconst C (nI 2) dX3_tried_53 (by decide) ?_
  refine z_icmp_ne C 70 dX3_tried_54 (by decide) (zeq_NN (by omega) (by omega)) (fun c_54 => ?_) (fun h9 => absurd h9 (by decide))
  refine z_aload_n C dX3_tried_70 1 rfl ?_
  refine z_get C inX3_tried_X3 0 wM_o rfl 9 (by decide) (C.w 2 rfl) rfl dX3_tried_71 ?_
  refine z_aload_n C dX3_tried_74 1 rfl ?_
  refine z_callV C (c_X3_sale l g q th (zSetPr a b x) la pe ga sz hx h0) (cwV 0 C.ts gX3_tried_X3_sale rfl rfl rfl (by decide +kernel) ⟨Nat.le_of_ble_eq_true rfl, Nat.le_of_ble_eq_true rfl⟩) wM_o rfl rfl rfl (Nat.le_of_ble_eq_true rfl) dX3_tried_75 ⟨Nat.zero_le _, Nat.zero_le _⟩ (z_ie ?_)
  rintro _ ⟨la75, pe75, ga75, sz75, rfl, hz75, hG75⟩
  refine z_ialdN C 5 wM_ga (by omega) (by decide) dX3_tried_78 (v := iZ (ga75 (mBest (zSetPr a b x)))) rfl ?_
  refine zW.top (y := iZ ((zFw (zSetPr a b x) 0).1)) (by rw [(hG75 _ (mBest_lt _)).1, zFw_0 hx]) ?_
  refine z_istore C dX3_tried_79 (by decide) [(5, .int (iZ ((zFw (zSetPr a b x) 0).1))), (4, .int (nI (zPr a b))), (0, .ref (q 0)), (1, .int (nI b)), (2, .int (nI x)), (3, .int (nI 3))] rfl ?_
  refine z_aload_n C dX3_tried_81 2 rfl ?_
  refine z_get C inX3_tried_X3 0 wM_o rfl 6 (by decide) (C.w 1 rfl) rfl dX3_tried_82 ?_
  refine z_iconst C (nI 5) dX3_tried_85 (by decide) ?_
  refine z_iload_n C dX3_tried_86 3 rfl ?_
  refine z_imul C dX3_tried_87 (v := nI (5 * b)) (pk_mul 5 b) ?_
  refine z_iconst C (nI 2) dX3_tried_88 (by decide) ?_
  refine z_iadd C dX3_tried_89 (v := nI ((5 * b) + 2)) (nI_add (5 * b) 2) ?_
  refine z_iload C dX3_tried_90 1 rfl ?_
  refine z_iastN C 2 wM_rw (by omega) (by decide) dX3_tried_92 (wM_set_pr b (zPr a b)) ?_
  rw [zSetPr_back]
  refine z_iload C dX3_tried_93 0 rfl ?_
  exact z_iretE C dX3_tried_95 rfl ⟨_, _, _, _, rfl, hz75⟩
theorem c_X3_tried (l : Launch) (g : zG) (q : Nat → Nat) (th : Int) (a : zS) (la : Nat → Int) (pe : Nat → Nat) (ga : Nat → Int) (sz : Nat → Nat) (ha : zOk a) (h0 : zM0 la pe) (b x : Nat) (hb : b < zNb a) (hx : zOk (zSetPr a b x)) (w : Nat) (hw : w ≤ 3) : zM g l yX3_tried wsX3_tried { frames := 8, cells := 0, slots := 0, locals := 182 } [.ref (q 0), .int (nI b), .int (nI x), .int (nI w)] (wM g q th a la pe ga sz) (zPie (iZ (aWould a b x w)) (zMw g q th a)) 0 0 := by
  rcases (show w = 0 ∨ w = 1 ∨ w = 2 ∨ w = 3 by omega) with rfl | rfl | rfl | rfl
  · have h := c_X3_tried_0 l g q th a la pe ga sz ha h0 b x hb hx
    rwa [bI_Z] at h
  · exact c_X3_tried_1 l g q th a la pe ga sz ha h0 b x hb hx
  · exact c_X3_tried_2 l g q th a la pe ga sz ha h0 b x hb hx
  · exact c_X3_tried_3 l g q th a la pe ga sz ha h0 b x hb hx
theorem inX3_told_X3 : ∀ w ∈ wsX30, w ∈ wsX3_told := fun w h => List.mem_cons_of_mem _ (List.mem_append_right _ (h))
set_option maxRecDepth 100000 in
set_option maxHeartbeats 4000000 in
theorem c_X3_told (l : Launch) (g : zG) (q : Nat → Nat) (th : Int) (a : zS) (la : Nat → Int) (pe : Nat → Nat) (ga : Nat → Int) (sz : Nat → Nat) (ha : zOk a) (h0 : zM0 la pe) (b w : Nat) (hb : b < zNb a) (hw : w ≤ 7) : zM g l yX3_told wsX3_told { frames := 6, cells := 0, slots := 0, locals := 135 } [.ref (q 0), .int (nI b), .int (nI w)] (wM g q th a la pe ga sz) (zPie (iZ (aTold a b w)) (zMw g q 0 a)) 0 0 := by
  refine zM.of (cc := cX3_told) (nL := 3) (ret := (some .int)) (lv := [(0, .ref (q 0)), (1, .int (nI b)), (2, .int (nI w))]) (by decide) rfl (Nat.le_of_ble_eq_true rfl) rfl ?_
  intro E C0 hi
  have C : zC g E cX3_told RX3 wsX3_told 3 (some .int) := C0
  obtain ⟨hnf, hnd, hnb, hou, hrs, hbd⟩ := id ha
  refine z_aload_n C dX3_told_0 0 rfl ?_
  refine z_iconst C (nI 0) dX3_told_1 (by decide) ?_
  refine z_put C inX3_told_X3 tyX3_ok nmX3 0 wM_o rfl 0 (by decide) (C.w 1 rfl) rfl (tyX3_ok 0 (by decide)) rfl rfl (Nat.le_of_ble_eq_true rfl) dX3_told_2 (wM_set_th 0) ?_
  refine z_aload_n C dX3_told_5 0 rfl ?_
  refine z_iload_n C dX3_told_6 1 rfl ?_
  refine z_callV C (c_X3_isBid_ok l g q 0 a la pe ga sz ha b (by omega)) (cwV 1 C.ts gX3_told_X3_isBid rfl rfl rfl (by decide +kernel) ⟨Nat.le_of_ble_eq_true rfl, Nat.le_of_ble_eq_true rfl⟩) wM_o rfl rfl rfl (Nat.le_of_ble_eq_true rfl) dX3_told_7 ⟨Nat.zero_le _, Nat.zero_le _⟩ (z_i ?_)
  refine z_if_eq C 32 dX3_told_10 (by decide) (zeq_B0 _) (fun h9 => absurd h9 (by decide)) (fun c_10 => ?_)
  refine z_iload_n C dX3_told_13 2 rfl ?_
  refine z_iconst C (nI 0) dX3_told_14 (by decide) ?_
  refine z_bipush C (nI 7) dX3_told_15 (by decide) ?_
  refine z_callS C (c_X3_isIn_ok l g (wM g q 0 a la pe ga sz) w 0 7 (by omega) (by omega) (by omega)) (va_cwS 3 C.ts gX3_told_X3_isIn rfl rfl rfl (by decide +kernel) ⟨Nat.le_of_ble_eq_true rfl, Nat.le_of_ble_eq_true rfl⟩) rfl rfl (Nat.le_of_ble_eq_true rfl) dX3_told_17 ⟨Nat.zero_le _, Nat.zero_le _⟩ (z_i ?_)
  refine z_if_eq C 32 dX3_told_20 (by decide) (zeq_B0 _) (fun h9 => absurd h9 (by decide)) (fun c_20 => ?_)
  refine z_aload_n C dX3_told_23 0 rfl ?_
  refine z_iload_n C dX3_told_24 1 rfl ?_
  refine z_iload_n C dX3_told_25 2 rfl ?_
  refine z_callV C (c_X3_bidTold l g q 0 a la pe ga sz ha h0 b w (by omega) (by omega)) (cwV 2 C.ts gX3_told_X3_bidTold rfl rfl rfl (by decide +kernel) ⟨Nat.le_of_ble_eq_true rfl, Nat.le_of_ble_eq_true rfl⟩) wM_o rfl rfl rfl (Nat.le_of_ble_eq_true rfl) dX3_told_26 ⟨Nat.zero_le _, Nat.zero_le _⟩ (z_ie ?_)
  rintro _ ⟨la26, pe26, ga26, sz26, rfl, hz26⟩
  refine z_goto C 37 dX3_told_29 (by decide) ?_
  exact z_iretE C dX3_told_37 rfl ⟨_, _, _, _, rfl, hz26⟩
theorem inX3_about_X3 : ∀ w ∈ wsX30, w ∈ wsX3_about := fun w h => List.mem_cons_of_mem _ (List.mem_append_right _ (h))
set_option maxRecDepth 100000 in
set_option maxHeartbeats 4000000 in
theorem c_X3_about (l : Launch) (g : zG) (q : Nat → Nat) (th : Int) (a : zS) (la : Nat → Int) (pe : Nat → Nat) (ga : Nat → Int) (sz : Nat → Nat) (ha : zOk a) (h0 : zM0 la pe) (d w : Nat) (hd : d < zNd a) (hw : w ≤ 5) : zM g l yX3_about wsX3_about { frames := 9, cells := 0, slots := 0, locals := 206 } [.ref (q 0), .int (nI d), .int (nI w)] (wM g q th a la pe ga sz) (zPie (iZ (aAbout a d w)) (zMw g q 0 a)) 0 0 := by
  refine zM.of (cc := cX3_about) (nL := 3) (ret := (some .int)) (lv := [(0, .ref (q 0)), (1, .int (nI d)), (2, .int (nI w))]) (by decide) rfl (Nat.le_of_ble_eq_true rfl) rfl ?_
  intro E C0 hi
  have C : zC g E cX3_about RX3 wsX3_about 3 (some .int) := C0
  obtain ⟨hnf, hnd, hnb, hou, hrs, hbd⟩ := id ha
  refine z_aload_n C dX3_about_0 0 rfl ?_
  refine z_iconst C (nI 0) dX3_about_1 (by decide) ?_
  refine z_put C inX3_about_X3 tyX3_ok nmX3 0 wM_o rfl 0 (by decide) (C.w 1 rfl) rfl (tyX3_ok 0 (by decide)) rfl rfl (Nat.le_of_ble_eq_true rfl) dX3_about_2 (wM_set_th 0) ?_
  refine z_aload_n C dX3_about_5 0 rfl ?_
  refine z_iload_n C dX3_about_6 1 rfl ?_
  refine z_callV C (c_X3_isBidder_ok l g q 0 a la pe ga sz ha d (by omega)) (cwV 1 C.ts gX3_about_X3_isBidder rfl rfl rfl (by decide +kernel) ⟨Nat.le_of_ble_eq_true rfl, Nat.le_of_ble_eq_true rfl⟩) wM_o rfl rfl rfl (Nat.le_of_ble_eq_true rfl) dX3_about_7 ⟨Nat.zero_le _, Nat.zero_le _⟩ (z_i ?_)
  refine z_if_eq C 31 dX3_about_10 (by decide) (zeq_B0 _) (fun h9 => absurd h9 (by decide)) (fun c_10 => ?_)
  refine z_iload_n C dX3_about_13 2 rfl ?_
  refine z_iconst C (nI 0) dX3_about_14 (by decide) ?_
  refine z_iconst C (nI 5) dX3_about_15 (by decide) ?_
  refine z_callS C (c_X3_isIn_ok l g (wM g q 0 a la pe ga sz) w 0 5 (by omega) (by omega) (by omega)) (va_cwS 3 C.ts gX3_about_X3_isIn rfl rfl rfl (by decide +kernel) ⟨Nat.le_of_ble_eq_true rfl, Nat.le_of_ble_eq_true rfl⟩) rfl rfl (Nat.le_of_ble_eq_true rfl) dX3_about_16 ⟨Nat.zero_le _, Nat.zero_le _⟩ (z_i ?_)
  refine z_if_eq C 31 dX3_about_19 (by decide) (zeq_B0 _) (fun h9 => absurd h9 (by decide)) (fun c_19 => ?_)
  refine z_aload_n C dX3_about_22 0 rfl ?_
  refine z_iload_n C dX3_about_23 1 rfl ?_
  refine z_iload_n C dX3_about_24 2 rfl ?_
  refine z_callV C (c_X3_bidderTold l g q 0 a la pe ga sz ha h0 d w (by omega) (by omega)) (cwV 2 C.ts gX3_about_X3_bidderTold rfl rfl rfl (by decide +kernel) ⟨Nat.le_of_ble_eq_true rfl, Nat.le_of_ble_eq_true rfl⟩) wM_o rfl rfl rfl (Nat.le_of_ble_eq_true rfl) dX3_about_25 ⟨Nat.zero_le _, Nat.zero_le _⟩ (z_ie ?_)
  rintro _ ⟨la25, pe25, ga25, sz25, rfl, hz25⟩
  refine z_goto C 36 dX3_about_28 (by decide) ?_
  exact z_iretE C dX3_about_36 rfl ⟨_, _, _, _, rfl, hz25⟩
theorem inX3_land_X3 : ∀ w ∈ wsX30, w ∈ wsX3_land := fun w h => List.mem_cons_of_mem _ (List.mem_append_right _ (h))
set_option maxRecDepth 100000 in
set_option maxHeartbeats 4000000 in
theorem c_X3_land (l : Launch) (g : zG) (q : Nat → Nat) (th : Int) (a : zS) (la : Nat → Int) (pe : Nat → Nat) (ga : Nat → Int) (sz : Nat → Nat) (ha : zOk a) (h0 : zM0 la pe) (f w : Nat) (hf : f < zNf a) (hw : w ≤ 2) : zM g l yX3_land wsX3_land { frames := 6, cells := 0, slots := 0, locals := 138 } [.ref (q 0), .int (nI f), .int (nI w)] (wM g q th a la pe ga sz) (zPie (iZ (aLand a f w)) (zMw g q 0 a)) 0 0 := by
  refine zM.of (cc := cX3_land) (nL := 3) (ret := (some .int)) (lv := [(0, .ref (q 0)), (1, .int (nI f)), (2, .int (nI w))]) (by decide) rfl (Nat.le_of_ble_eq_true rfl) rfl ?_
  intro E C0 hi
  have C : zC g E cX3_land RX3 wsX3_land 3 (some .int) := C0
  obtain ⟨hnf, hnd, hnb, hou, hrs, hbd⟩ := id ha
  refine z_aload_n C dX3_land_0 0 rfl ?_
  refine z_iconst C (nI 0) dX3_land_1 (by decide) ?_
  refine z_put C inX3_land_X3 tyX3_ok nmX3 0 wM_o rfl 0 (by decide) (C.w 1 rfl) rfl (tyX3_ok 0 (by decide)) rfl rfl (Nat.le_of_ble_eq_true rfl) dX3_land_2 (wM_set_th 0) ?_
  refine z_aload_n C dX3_land_5 0 rfl ?_
  refine z_iload_n C dX3_land_6 1 rfl ?_
  refine z_callV C (c_X3_isField_ok l g q 0 a la pe ga sz ha f (by omega)) (cwV 1 C.ts gX3_land_X3_isField rfl rfl rfl (by decide +kernel) ⟨Nat.le_of_ble_eq_true rfl, Nat.le_of_ble_eq_true rfl⟩) wM_o rfl rfl rfl (Nat.le_of_ble_eq_true rfl) dX3_land_7 ⟨Nat.zero_le _, Nat.zero_le _⟩ (z_i ?_)
  refine z_if_eq C 31 dX3_land_10 (by decide) (zeq_B0 _) (fun h9 => absurd h9 (by decide)) (fun c_10 => ?_)
  refine z_iload_n C dX3_land_13 2 rfl ?_
  refine z_iconst C (nI 0) dX3_land_14 (by decide) ?_
  refine z_iconst C (nI 2) dX3_land_15 (by decide) ?_
  refine z_callS C (c_X3_isIn_ok l g (wM g q 0 a la pe ga sz) w 0 2 (by omega) (by omega) (by omega)) (va_cwS 3 C.ts gX3_land_X3_isIn rfl rfl rfl (by decide +kernel) ⟨Nat.le_of_ble_eq_true rfl, Nat.le_of_ble_eq_true rfl⟩) rfl rfl (Nat.le_of_ble_eq_true rfl) dX3_land_16 ⟨Nat.zero_le _, Nat.zero_le _⟩ (z_i ?_)
  refine z_if_eq C 31 dX3_land_19 (by decide) (zeq_B0 _) (fun h9 => absurd h9 (by decide)) (fun c_19 => ?_)
  refine z_aload_n C dX3_land_22 0 rfl ?_
  refine z_iload_n C dX3_land_23 1 rfl ?_
  refine z_iload_n C dX3_land_24 2 rfl ?_
  refine z_callV C (c_X3_fieldTold l g q 0 a la pe ga sz ha h0 f w (by omega) (by omega)) (cwV 2 C.ts gX3_land_X3_fieldTold rfl rfl rfl (by decide +kernel) ⟨Nat.le_of_ble_eq_true rfl, Nat.le_of_ble_eq_true rfl⟩) wM_o rfl rfl rfl (Nat.le_of_ble_eq_true rfl) dX3_land_25 ⟨Nat.zero_le _, Nat.zero_le _⟩ (z_ie ?_)
  rintro _ ⟨la25, pe25, ga25, sz25, rfl, hz25⟩
  refine z_goto C 36 dX3_land_28 (by decide) ?_
  exact z_iretE C dX3_land_36 rfl ⟨_, _, _, _, rfl, hz25⟩
theorem inX3_count_X3 : ∀ w ∈ wsX30, w ∈ wsX3_count := fun w h => List.mem_cons_of_mem _ (List.mem_append_right _ (h))
set_option maxRecDepth 100000 in
set_option maxHeartbeats 4000000 in
theorem c_X3_count (l : Launch) (g : zG) (q : Nat → Nat) (th : Int) (a : zS) (la : Nat → Int) (pe : Nat → Nat) (ga : Nat → Int) (sz : Nat → Nat) (ha : zOk a) (h0 : zM0 la pe) (w : Nat) (hw : w ≤ 8) : zM g l yX3_count wsX3_count { frames := 9, cells := 0, slots := 0, locals := 206 } [.ref (q 0), .int (nI w)] (wM g q th a la pe ga sz) (zPie (iZ (aCount a w)) (zMw g q 0 a)) 0 0 := by
  refine zM.of (cc := cX3_count) (nL := 2) (ret := (some .int)) (lv := [(0, .ref (q 0)), (1, .int (nI w))]) (by decide) rfl (Nat.le_of_ble_eq_true rfl) rfl ?_
  intro E C0 hi
  have C : zC g E cX3_count RX3 wsX3_count 2 (some .int) := C0
  obtain ⟨hnf, hnd, hnb, hou, hrs, hbd⟩ := id ha
  refine z_aload_n C dX3_count_0 0 rfl ?_
  refine z_iconst C (nI 0) dX3_count_1 (by decide) ?_
  refine z_put C inX3_count_X3 tyX3_ok nmX3 0 wM_o rfl 0 (by decide) (C.w 1 rfl) rfl (tyX3_ok 0 (by decide)) rfl rfl (Nat.le_of_ble_eq_true rfl) dX3_count_2 (wM_set_th 0) ?_
  refine z_iload_n C dX3_count_5 1 rfl ?_
  refine z_iconst C (nI 0) dX3_count_6 (by decide) ?_
  refine z_bipush C (nI 8) dX3_count_7 (by decide) ?_
  refine z_callS C (c_X3_isIn_ok l g (wM g q 0 a la pe ga sz) w 0 8 (by omega) (by omega) (by omega)) (va_cwS 3 C.ts gX3_count_X3_isIn rfl rfl rfl (by decide +kernel) ⟨Nat.le_of_ble_eq_true rfl, Nat.le_of_ble_eq_true rfl⟩) rfl rfl (Nat.le_of_ble_eq_true rfl) dX3_count_9 ⟨Nat.zero_le _, Nat.zero_le _⟩ (z_i ?_)
  refine z_if_eq C 23 dX3_count_12 (by decide) (zeq_B0 _) (fun h9 => absurd h9 (by decide)) (fun c_12 => ?_)
  refine z_aload_n C dX3_count_15 0 rfl ?_
  refine z_iload_n C dX3_count_16 1 rfl ?_
  refine z_callV C (c_X3_counted l g q 0 a la pe ga sz ha h0 w (by omega)) (cwV 1 C.ts gX3_count_X3_counted rfl rfl rfl (by decide +kernel) ⟨Nat.le_of_ble_eq_true rfl, Nat.le_of_ble_eq_true rfl⟩) wM_o rfl rfl rfl (Nat.le_of_ble_eq_true rfl) dX3_count_17 ⟨Nat.zero_le _, Nat.zero_le _⟩ (z_ie ?_)
  rintro _ ⟨la17, pe17, ga17, sz17, rfl, hz17⟩
  refine z_goto C 28 dX3_count_20 (by decide) ?_
  exact z_iretE C dX3_count_28 rfl ⟨_, _, _, _, rfl, hz17⟩
theorem inX3_alone_X3 : ∀ w ∈ wsX30, w ∈ wsX3_alone := fun w h => List.mem_cons_of_mem _ (List.mem_append_right _ (h))
set_option maxRecDepth 100000 in
set_option maxHeartbeats 4000000 in
theorem c_X3_alone (l : Launch) (g : zG) (q : Nat → Nat) (th : Int) (a : zS) (la : Nat → Int) (pe : Nat → Nat) (ga : Nat → Int) (sz : Nat → Nat) (ha : zOk a) (h0 : zM0 la pe) (f w : Nat) (hf : f < zNf a) (hw : w ≤ 2) : zM g l yX3_alone wsX3_alone { frames := 5, cells := 0, slots := 0, locals := 111 } [.ref (q 0), .int (nI f), .int (nI w)] (wM g q th a la pe ga sz) (zPie (iZ (aAlone a f w)) (zMw g q 0 a)) 0 0 := by
  refine zM.of (cc := cX3_alone) (nL := 3) (ret := (some .int)) (lv := [(0, .ref (q 0)), (1, .int (nI f)), (2, .int (nI w))]) (by decide) rfl (Nat.le_of_ble_eq_true rfl) rfl ?_
  intro E C0 hi
  have C : zC g E cX3_alone RX3 wsX3_alone 3 (some .int) := C0
  obtain ⟨hnf, hnd, hnb, hou, hrs, hbd⟩ := id ha
  refine z_aload_n C dX3_alone_0 0 rfl ?_
  refine z_iconst C (nI 0) dX3_alone_1 (by decide) ?_
  refine z_put C inX3_alone_X3 tyX3_ok nmX3 0 wM_o rfl 0 (by decide) (C.w 1 rfl) rfl (tyX3_ok 0 (by decide)) rfl rfl (Nat.le_of_ble_eq_true rfl) dX3_alone_2 (wM_set_th 0) ?_
  refine z_aload_n C dX3_alone_5 0 rfl ?_
  refine z_iload_n C dX3_alone_6 1 rfl ?_
  refine z_callV C (c_X3_isField_ok l g q 0 a la pe ga sz ha f (by omega)) (cwV 1 C.ts gX3_alone_X3_isField rfl rfl rfl (by decide +kernel) ⟨Nat.le_of_ble_eq_true rfl, Nat.le_of_ble_eq_true rfl⟩) wM_o rfl rfl rfl (Nat.le_of_ble_eq_true rfl) dX3_alone_7 ⟨Nat.zero_le _, Nat.zero_le _⟩ (z_i ?_)
  refine z_if_eq C 31 dX3_alone_10 (by decide) (zeq_B0 _) (fun h9 => absurd h9 (by decide)) (fun c_10 => ?_)
  refine z_iload_n C dX3_alone_13 2 rfl ?_
  refine z_iconst C (nI 0) dX3_alone_14 (by decide) ?_
  refine z_iconst C (nI 2) dX3_alone_15 (by decide) ?_
  refine z_callS C (c_X3_isIn_ok l g (wM g q 0 a la pe ga sz) w 0 2 (by omega) (by omega) (by omega)) (va_cwS 3 C.ts gX3_alone_X3_isIn rfl rfl rfl (by decide +kernel) ⟨Nat.le_of_ble_eq_true rfl, Nat.le_of_ble_eq_true rfl⟩) rfl rfl (Nat.le_of_ble_eq_true rfl) dX3_alone_16 ⟨Nat.zero_le _, Nat.zero_le _⟩ (z_i ?_)
  refine z_if_eq C 31 dX3_alone_19 (by decide) (zeq_B0 _) (fun h9 => absurd h9 (by decide)) (fun c_19 => ?_)
  refine z_aload_n C dX3_alone_22 0 rfl ?_
  refine z_iload_n C dX3_alone_23 1 rfl ?_
  refine z_iload_n C dX3_alone_24 2 rfl ?_
  refine z_callV C (c_X3_aloneTold l g q 0 a la pe ga sz ha h0 f w (by omega) (by omega)) (cwV 2 C.ts gX3_alone_X3_aloneTold rfl rfl rfl (by decide +kernel) ⟨Nat.le_of_ble_eq_true rfl, Nat.le_of_ble_eq_true rfl⟩) wM_o rfl rfl rfl (Nat.le_of_ble_eq_true rfl) dX3_alone_25 ⟨Nat.zero_le _, Nat.zero_le _⟩ (z_ie ?_)
  rintro _ ⟨la25, pe25, ga25, sz25, rfl, hz25⟩
  refine z_goto C 36 dX3_alone_28 (by decide) ?_
  exact z_iretE C dX3_alone_36 rfl ⟨_, _, _, _, rfl, hz25⟩
theorem inX3_would_X3 : ∀ w ∈ wsX30, w ∈ wsX3_would := fun w h => List.mem_cons_of_mem _ (List.mem_append_right _ (h))
set_option maxRecDepth 100000 in
set_option maxHeartbeats 4000000 in
theorem c_X3_would (l : Launch) (g : zG) (q : Nat → Nat) (th : Int) (a : zS) (la : Nat → Int) (pe : Nat → Nat) (ga : Nat → Int) (sz : Nat → Nat) (ha : zOk a) (h0 : zM0 la pe) (b x w : Nat) (hb : b < zNb a) (hx : x ≤ 999) (hxo : zOk (zSetPr a b x)) (hw : w ≤ 3) : zM g l yX3_would wsX3_would { frames := 9, cells := 0, slots := 0, locals := 207 } [.ref (q 0), .int (nI b), .int (nI x), .int (nI w)] (wM g q th a la pe ga sz) (zPie (iZ (aWould a b x w)) (zMw g q 0 a)) 0 0 := by
  refine zM.of (cc := cX3_would) (nL := 4) (ret := (some .int)) (lv := [(0, .ref (q 0)), (1, .int (nI b)), (2, .int (nI x)), (3, .int (nI w))]) (by decide) rfl (Nat.le_of_ble_eq_true rfl) rfl ?_
  intro E C0 hi
  have C : zC g E cX3_would RX3 wsX3_would 4 (some .int) := C0
  obtain ⟨hnf, hnd, hnb, hou, hrs, hbd⟩ := id ha
  refine z_aload_n C dX3_would_0 0 rfl ?_
  refine z_iconst C (nI 0) dX3_would_1 (by decide) ?_
  refine z_put C inX3_would_X3 tyX3_ok nmX3 0 wM_o rfl 0 (by decide) (C.w 1 rfl) rfl (tyX3_ok 0 (by decide)) rfl rfl (Nat.le_of_ble_eq_true rfl) dX3_would_2 (wM_set_th 0) ?_
  refine z_aload_n C dX3_would_5 0 rfl ?_
  refine z_iload_n C dX3_would_6 1 rfl ?_
  refine z_callV C (c_X3_isBid_ok l g q 0 a la pe ga sz ha b (by omega)) (cwV 1 C.ts gX3_would_X3_isBid rfl rfl rfl (by decide +kernel) ⟨Nat.le_of_ble_eq_true rfl, Nat.le_of_ble_eq_true rfl⟩) wM_o rfl rfl rfl (Nat.le_of_ble_eq_true rfl) dX3_would_7 ⟨Nat.zero_le _, Nat.zero_le _⟩ (z_i ?_)
  refine z_if_eq C 22 dX3_would_10 (by decide) (zeq_B0 _) (fun h9 => absurd h9 (by decide)) (fun c_10 => ?_)
  refine z_iload_n C dX3_would_13 3 rfl ?_
  refine z_iconst C (nI 0) dX3_would_14 (by decide) ?_
  refine z_iconst C (nI 3) dX3_would_15 (by decide) ?_
  refine z_callS C (c_X3_isIn_ok l g (wM g q 0 a la pe ga sz) w 0 3 (by omega) (by omega) (by omega)) (va_cwS 3 C.ts gX3_would_X3_isIn rfl rfl rfl (by decide +kernel) ⟨Nat.le_of_ble_eq_true rfl, Nat.le_of_ble_eq_true rfl⟩) rfl rfl (Nat.le_of_ble_eq_true rfl) dX3_would_16 ⟨Nat.zero_le _, Nat.zero_le _⟩ (z_i ?_)
  refine z_if_ne C 28 dX3_would_19 (by decide) (zeq_B0 _) (fun c_19 => ?_) (fun h9 => absurd h9 (by decide))
  refine z_iload_n C dX3_would_28 2 rfl ?_
  refine z_callS C (c_X3_isPrice_ok l g (wM g q 0 a la pe ga sz) x (by omega)) (va_cwS 1 C.ts gX3_would_X3_isPrice rfl rfl rfl (by decide +kernel) ⟨Nat.le_of_ble_eq_true rfl, Nat.le_of_ble_eq_true rfl⟩) rfl rfl (Nat.le_of_ble_eq_true rfl) dX3_would_29 ⟨Nat.zero_le _, Nat.zero_le _⟩ (z_i ?_)
  refine z_if_eq C 45 dX3_would_32 (by decide) (zeq_B0 _) (fun h9 => absurd h9 (by decide)) (fun c_32 => ?_)
  refine z_aload_n C dX3_would_35 0 rfl ?_
  refine z_iload_n C dX3_would_36 1 rfl ?_
  refine z_iload_n C dX3_would_37 2 rfl ?_
  refine z_iload_n C dX3_would_38 3 rfl ?_
  refine z_callV C (c_X3_tried l g q 0 a la pe ga sz ha h0 b x (by omega) hxo w (by omega)) (cwV 3 C.ts gX3_would_X3_tried rfl rfl rfl (by decide +kernel) ⟨Nat.le_of_ble_eq_true rfl, Nat.le_of_ble_eq_true rfl⟩) wM_o rfl rfl rfl (Nat.le_of_ble_eq_true rfl) dX3_would_39 ⟨Nat.zero_le _, Nat.zero_le _⟩ (z_ie ?_)
  rintro _ ⟨la39, pe39, ga39, sz39, rfl, hz39⟩
  refine z_goto C 50 dX3_would_42 (by decide) ?_
  exact z_iretE C dX3_would_50 rfl ⟨_, _, _, _, rfl, hz39⟩
