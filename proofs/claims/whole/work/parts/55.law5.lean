set_option maxRecDepth 100000 in
set_option maxHeartbeats 4000000 in
theorem law_loop (l : Launch) (hl9 : l.stackTraces = false) (g : zG) (E : zEnv) (Q : State → Prop) (C : zC g E cL_law RL wsL_law 9 (some .boolean)) (F : zFx (zA E) (zs E) (zs E).heap) {b L : Nat} {xs : Nat → Int32} (S : zSc E b L xs) (q p : Nat → Nat) (qo : Nat) (kend : ∀ (W : va_W) (lv : List (Nat × Value)), zW g l room_1 E Q 9 601024 7293034 W lv [.int (nI 1)] 1194) : ∀ (n i c s : Nat) (a : zS) (W0 : va_W), i ≤ 2048 → L ≤ i + 4 * n → c + 8 * n ≤ 601024 → s + 64 * n ≤ 7293034 → zInv a → zLd g q p qo a W0 → zW g l room_1 E Q 9 c s W0 [(0, .ref b), (1, .ref (q 0)), (2, .ref (p 0)), (3, .ref qo), (4, .int (nI i))] [] 23 := by
  have hLs := S.2.2.2
  intro n
  induction n with
  | zero =>
    intro i c s a W0 h1 h2 h3 h4 hi hW
    refine z_iload C dL_law_23 4 rfl ?_
    refine z_aload_n C dL_law_25 0 rfl ?_
    refine z_slen C S dL_law_26 ?_
    refine z_iconst C (nI 4) dL_law_27 (by decide) ?_
    refine z_isub C dL_law_28 (v := iZ (((L : Nat) : Int) - 4)) (iZ_sub ((L : Nat) : Int) 4) ?_
    refine z_icmp_gt C 1193 dL_law_29 (by decide) (zlt_ZZ (x := (((L : Nat) : Int) - 4)) (y := ((i : Nat) : Int)) (by unfold zB31; omega) (by unfold zB31; omega)) (fun c_29 => ?_) (fun h9 => absurd (by omega) h9)
    refine z_iconst C (nI 1) dL_law_1193 (by decide) ?_
    refine zW.wid (k := 601024) (n := 7293034) (by omega) (by omega) ?_
    exact kend _ _
  | succ n ih =>
    intro i c s a W0 h1 h2 h3 h4 hi hW
    refine z_iload C dL_law_23 4 rfl ?_
    refine z_aload_n C dL_law_25 0 rfl ?_
    refine z_slen C S dL_law_26 ?_
    refine z_iconst C (nI 4) dL_law_27 (by decide) ?_
    refine z_isub C dL_law_28 (v := iZ (((L : Nat) : Int) - 4)) (iZ_sub ((L : Nat) : Int) 4) ?_
    refine z_icmp_gt C 1193 dL_law_29 (by decide) (zlt_ZZ (x := (((L : Nat) : Int) - 4)) (y := ((i : Nat) : Int)) (by unfold zB31; omega) (by unfold zB31; omega)) (fun c_29 => ?_) (fun c_29 => ?_)
    · skip
      refine z_iconst C (nI 1) dL_law_1193 (by decide) ?_
      refine zW.wid (k := 601024) (n := 7293034) (by omega) (by omega) ?_
      exact kend _ _
    · skip
      refine z_aload_n C dL_law_32 0 rfl ?_
      refine z_iload C dL_law_33 4 rfl ?_
      refine z_sld C S (j := i) (by omega) dL_law_35 ?_
      refine z_bipush C (nI 31) dL_law_36 (by decide) ?_
      refine z_iand C dL_law_38 (v := ((xs (i)) &&& (nI 31))) rfl ?_
      obtain ⟨v, hv, e⟩ := zand31 (xs i)
      refine zW.top (y := nI v) e ?_
      have hk : ∀ (a' : zS) (W' : va_W), zInv a' → zLd g q p qo a' W' → zW g l room_1 E Q 9 (c + 8) (s + 64) W' [(0, .ref b), (1, .ref (q 0)), (2, .ref (p 0)), (3, .ref qo), (4, .int (nI i))] [] 1187 := by
        intro a' W' g1 g2
        refine z_iinc C dL_law_1187 4 (nI (i + 4)) rfl (nI_add i 4) (by decide) [(4, .int (nI (i + 4))), (0, .ref b), (1, .ref (q 0)), (2, .ref (p 0)), (3, .ref qo)] rfl ?_
        refine z_goto C 23 dL_law_1190 (by decide) ?_
        refine zW.pick (lv' := [(0, .ref b), (1, .ref (q 0)), (2, .ref (p 0)), (3, .ref qo), (4, .int (nI (i + 4)))]) [1, 2, 3, 4, 0] rfl ?_
        exact ih (i + 4) (c + 8) (s + 64) a' W' (by omega) (by omega) (by omega) (by omega) g1 g2
      rcases (show v < 18 ∨ 18 ≤ v by omega) with h18 | h18
      · rcases (show v = 0 ∨ v = 1 ∨ v = 2 ∨ v = 3 ∨ v = 4 ∨ v = 5 ∨ v = 6 ∨ v = 7 ∨ v = 8 ∨ v = 9 ∨ v = 10 ∨ v = 11 ∨ v = 12 ∨ v = 13 ∨ v = 14 ∨ v = 15 ∨ v = 16 ∨ v = 17 by omega) with rfl | rfl | rfl | rfl | rfl | rfl | rfl | rfl | rfl | rfl | rfl | rfl | rfl | rfl | rfl | rfl | rfl | rfl
        · exact z_tabIn C 124 dL_law_39 (by decide) (by decide) (off := 85) (by decide) (by decide) (s_field l hl9 g E Q C F S q p qo a hi i (by omega) (by omega) (by omega) W0 hW hk)
        · exact z_tabIn C 180 dL_law_39 (by decide) (by decide) (off := 141) (by decide) (by decide) (s_setReserve l hl9 g E Q C F S q p qo a hi i (by omega) (by omega) (by omega) W0 hW hk)
        · exact z_tabIn C 248 dL_law_39 (by decide) (by decide) (off := 209) (by decide) (by decide) (s_join l hl9 g E Q C F S q p qo a hi i (by omega) (by omega) (by omega) W0 hW hk)
        · exact z_tabIn C 292 dL_law_39 (by decide) (by decide) (off := 253) (by decide) (by decide) (s_setIn l hl9 g E Q C F S q p qo a hi i (by omega) (by omega) (by omega) W0 hW hk)
        · exact z_tabIn C 383 dL_law_39 (by decide) (by decide) (off := 344) (by decide) (by decide) (s_bid l hl9 g E Q C F S q p qo a hi i (by omega) (by omega) (by omega) W0 hW hk)
        · exact z_tabIn C 463 dL_law_39 (by decide) (by decide) (off := 424) (by decide) (by decide) (s_setPrice l hl9 g E Q C F S q p qo a hi i (by omega) (by omega) (by omega) W0 hW hk)
        · exact z_tabIn C 531 dL_law_39 (by decide) (by decide) (off := 492) (by decide) (by decide) (s_setWorth l hl9 g E Q C F S q p qo a hi i (by omega) (by omega) (by omega) W0 hW hk)
        · exact z_tabIn C 599 dL_law_39 (by decide) (by decide) (off := 560) (by decide) (by decide) (s_withdraw l hl9 g E Q C F S q p qo a hi i (by omega) (by omega) (by omega) W0 hW hk)
        · exact z_tabIn C 655 dL_law_39 (by decide) (by decide) (off := 616) (by decide) (by decide) (s_told l hl9 g E Q C F S q p qo a hi i (by omega) (by omega) (by omega) W0 hW hk)
        · exact z_tabIn C 723 dL_law_39 (by decide) (by decide) (off := 684) (by decide) (by decide) (s_about l hl9 g E Q C F S q p qo a hi i (by omega) (by omega) (by omega) W0 hW hk)
        · exact z_tabIn C 791 dL_law_39 (by decide) (by decide) (off := 752) (by decide) (by decide) (s_land l hl9 g E Q C F S q p qo a hi i (by omega) (by omega) (by omega) W0 hW hk)
        · exact z_tabIn C 859 dL_law_39 (by decide) (by decide) (off := 820) (by decide) (by decide) (s_count l hl9 g E Q C F S q p qo a hi i (by omega) (by omega) (by omega) W0 hW hk)
        · exact z_tabIn C 915 dL_law_39 (by decide) (by decide) (off := 876) (by decide) (by decide) (s_alone l hl9 g E Q C F S q p qo a hi i (by omega) (by omega) (by omega) W0 hW hk)
        · exact z_tabIn C 983 dL_law_39 (by decide) (by decide) (off := 944) (by decide) (by decide) (s_would l hl9 g E Q C F S q p qo a hi i (by omega) (by omega) (by omega) W0 hW hk)
        · exact z_tabIn C 1063 dL_law_39 (by decide) (by decide) (off := 1024) (by decide) (by decide) (s_least l hl9 g E Q C F S q p qo a hi i (by omega) (by omega) (by omega) W0 hW hk)
        · exact z_tabIn C 1119 dL_law_39 (by decide) (by decide) (off := 1080) (by decide) (by decide) (s_rival l hl9 g E Q C F S q p qo a hi i (by omega) (by omega) (by omega) W0 hW hk)
        · exact z_tabIn C 1132 dL_law_39 (by decide) (by decide) (off := 1093) (by decide) (by decide) (s_mean l hl9 g E Q C F S q p qo a hi i (by omega) (by omega) (by omega) W0 hW hk)
        · exact z_tabIn C 1173 dL_law_39 (by decide) (by decide) (off := 1134) (by decide) (by decide) (s_digest l hl9 g E Q C F S q p qo a hi i (by omega) (by omega) (by omega) W0 hW hk)
      · refine z_tabOut C 1187 dL_law_39 (Or.inr (by rw [nI_toInt (by omega)]; omega)) (by decide) ?_
        exact zW.wid (by omega) (by omega) (hk a W0 hi hW)
