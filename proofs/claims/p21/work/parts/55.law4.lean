theorem zSetNd_id {a : zS} (h : zNd a = 0) : zSetNd a 0 = a := by
  show zMk (zNf a) 0 (zNb a) (zOu a) (zRs a) (zOw a) (zBu a) (zPr a) (zWo a) (zGo a) = a
  rw [← h]; rfl
theorem zDc_0 : (fun _ => nI 0) = fun (j : Nat) => bI (decide (j < 0)) := by
  funext j
  rw [decide_eq_false (Nat.not_lt_zero j)]; rfl
theorem zDc_s (i : Nat) : upd (fun (j : Nat) => bI (decide (j < i))) i (bI true) = fun j => bI (decide (j < i + 1)) := by
  rw [zup_B]
  funext j
  congr 1
  show (if j = i then true else decide (j < i)) = decide (j < i + 1)
  by_cases h : j = i
  · subst h; rw [if_pos rfl, decide_eq_true (Nat.lt_succ_self j)]
  · rw [if_neg h]
    by_cases h2 : j < i
    · rw [decide_eq_true h2, decide_eq_true (show j < i + 1 by omega)]
    · rw [decide_eq_false h2, decide_eq_false (show ¬ j < i + 1 by omega)]
theorem zIn_dc {a : zS} (h : zOu a = 0) (m : Nat) : (fun (j : Nat) => bI (decide (j < m))) = fun j => bI (zIn (zSetNd a m) j) := by
  funext j
  show bI (decide (j < m)) = bI (decide (j < m) && !((zOu a).testBit j))
  rw [h, Nat.zero_testBit]
  cases decide (j < m) <;> rfl
section ZNU
variable {g : zG} {l : Launch} {R : Room} {E : zEnv} {Q : State → Prop} {nL cells slots : Nat} {lv : List (Nat × Value)} {st : List Value} {pc : Nat}
variable {q p : Nat → Nat} {a a0 : zS} {G : Nat → Int} {bs : Nat → Int × Nat} {wb pd gw : Nat → Nat → Int} {sm : Int × Nat × Nat}
theorem zset0_put {e9 e : Nat × va_E} {L L' : va_W} {k : Nat} (h : L.set k e = L') : ((wS g p a sm).set 0 e9 ++ L).set (4 + zNb a + k) e = (wS g p a sm).set 0 e9 ++ L' := by
  have h1 := zapp_setk (a := (wS g p a sm).set 0 e9) h
  rw [zset0_len] at h1
  exact h1
theorem zNewInM {x m : Nat} (ho : zOu a = 0) (k : ∀ p' : Nat → Nat, p' 0 = p 0 → zW g l R E Q nL cells slots (wB g q a0 G bs wb pd gw ++ wS g p' (zSetNd a m) sm) lv st pc) : zW g l R E Q nL cells slots (wB g q a0 G bs wb pd gw ++ ((wS g p a sm).set 0 (p 0, zOb (p 1) x (p 3) sm) ++ [(x, .inl (zZ g, m, .inl (fun j => bI (decide (j < m)))))])) lv st pc := by
  refine zW.newS (a' := zSetNd a m) (p' := va_up p 2 x) (sm' := sm) (fun i => if i = 2 then 4 + zNb a else i) (fun i j h1 h2 h3 => ?_) (fun j e he => ?_) (k _ rfl)
  · have h4 : (if i = 2 then 4 + zNb a else i) = (if j = 2 then 4 + zNb a else j) := h3
    have e1 : zNb (zSetNd a m) = zNb a := rfl
    rw [e1] at h1 h2
    split at h4 <;> split at h4 <;> omega
  · show _[if j = 2 then 4 + zNb a else j]? = some e
    rcases wS_cases he with ⟨rfl, h⟩ | ⟨rfl, h⟩ | ⟨rfl, h⟩ | ⟨rfl, h⟩ | ⟨b, hb, rfl, h⟩
    · exact h
    · exact h
    · rw [if_pos rfl, ← Option.some.inj h, zIn_dc ho m]
      exact zset0_new (k := 0) rfl
    · have e3 : zPt (zSetNd a m) (va_up p 2 x) = zPt a p := by
        funext i
        show (if i < zNb a then some (va_up p 2 x (4 + i)) else none) = if i < zNb a then some (p (4 + i)) else none
        rw [va_up_ne _ _ (by omega)]
      rw [wS_bi, e3] at h
      rw [← h]; rfl
    · rw [if_neg (by omega)]
      have hb2 : b < zNb a := hb
      refine zapp_l (zset0_ne ?_ (by omega))
      have h5 := wS_row (g := g) (q := va_up p 2 x) (a := zSetNd a m) (sm := sm) hb
      rw [h5] at h
      rw [← h, wS_row hb2]
      show some (p (4 + b), _) = some (va_up p 2 x (4 + b), _)
      rw [va_up_ne _ _ (by omega)]
      rfl
end ZNU
theorem inL_build_X3 : ∀ w ∈ wsX30, w ∈ wsL_build := fun w h => List.mem_cons_of_mem _ (List.mem_append_left _ (List.mem_append_left _ (List.mem_append_left _ (List.mem_append_left _ (List.mem_append_left _ (List.mem_append_left _ (List.mem_append_right _ (h))))))))
set_option maxRecDepth 100000 in
set_option maxHeartbeats 4000000 in
theorem c_L_build (l : Launch) (g : zG) (q : Nat → Nat) (b L : Nat) (xs : Nat → Int32) (hL : L ≤ 260) (bs : Nat → Int × Nat) (wb pd gw : Nat → Nat → Int) (hs : zSet zA0 bs wb pd gw 0 0)  : zMx g l b L xs yL_build wsL_build { frames := 32, cells := 65, slots := 525, locals := 861 } [.ref (q 0), .ref b] (wB g q zA0 (zG0 zA0) bs wb pd gw) ((fun v W => ∃ p0 : Nat, v = some (.ref p0) ∧ zBoth g q p0 W)) 65 525 := by
  refine zMx.of hL (cc := cL_build) (nL := 7) (ret := (some (.object "PastureBidsLaw$Sim"))) (lv := [(0, .ref (q 0)), (1, .ref b)]) (by decide) rfl (Nat.le_of_ble_eq_true rfl) rfl ?_
  intro E C0 S
  have C : zC g E cL_build RL wsL_build 7 (some (.object "PastureBidsLaw$Sim")) := C0
  refine z_new C inL_build_X3 tyX3 tyX3_ok (C.w 1 rfl) (C.w 2 rfl) (C.w 3 rfl) (ci := 3) rfl _ nwX3 (Nat.le_of_ble_eq_true rfl) (Nat.le_of_ble_eq_true rfl) dL_build_0 (fun n0 => ?_)
  refine z_dup C dL_build_3 rfl ?_
  refine z_callIN C (zM.fh (c_X3_init l g n0) (wB g q zA0 (zG0 zA0) bs wb pd gw)) ⟨va_cnB 0 C.ts ggL_build_X3_init rfl rfl rfl (C.K.2.1 _ (List.mem_of_getElem? (i := 15) rfl)) (C.w 3 rfl) (by decide +kernel) ⟨Nat.le_of_ble_eq_true rfl, Nat.le_of_ble_eq_true rfl⟩, rfl, (C.w 7 rfl)⟩ rfl rfl (Nat.le_of_ble_eq_true rfl) dL_build_4 ⟨Nat.le_of_ble_eq_true rfl, Nat.le_of_ble_eq_true rfl⟩ ?_
  rintro _ _ ⟨_, ⟨rfl, p, e0, rfl⟩, rfl⟩
  refine zW.eqst (st2 := [.ref n0]) rfl ?_
  refine z_astore_n C dL_build_7 (by decide) [(2, .ref n0), (0, .ref (q 0)), (1, .ref b)] rfl ?_
  refine z_iconst C (nI 1) dL_build_8 (by decide) ?_
  refine z_aload_n C dL_build_9 2 rfl ?_
  refine z_iconst C (nI 0) dL_build_10 (by decide) ?_
  refine z_callSx C S (c_L_cell l g (wB g q zA0 (zG0 zA0) bs wb pd gw ++ (wS g p zA0 (0, 0, 0))) b L xs (by omega) 0 (by omega)) (va_cwS 2 C.ts gL_build_L_cell rfl rfl rfl (by decide +kernel) ⟨Nat.le_of_ble_eq_true rfl, Nat.le_of_ble_eq_true rfl⟩) rfl rfl (Nat.le_of_ble_eq_true rfl) dL_build_11 ⟨by dsimp only; omega, by dsimp only; omega⟩ ?_
  rintro _ _ ⟨rfl, rfl⟩
  refine zW.eqst (st2 := [.int (zCe xs L 0), .int (nI 1)]) rfl ?_
  refine z_bipush C (nI 8) dL_build_14 (by decide) ?_
  refine z_callS C (c_L_below l g (wB g q zA0 (zG0 zA0) bs wb pd gw ++ (wS g p zA0 (0, 0, 0))) (zCe xs L 0) 8 (by omega) (by omega)) (va_cwS 2 C.ts gL_build_L_below rfl rfl rfl (by decide +kernel) ⟨Nat.le_of_ble_eq_true rfl, Nat.le_of_ble_eq_true rfl⟩) rfl rfl (Nat.le_of_ble_eq_true rfl) dL_build_16 ⟨by dsimp only; omega, by dsimp only; omega⟩ ?_
  rintro _ _ ⟨rfl, rfl⟩
  refine zW.eqst (st2 := [.int (nI (zBe (zCe xs L 0) 8)), .int (nI 1)]) rfl ?_
  obtain ⟨r16, hr16, hl16⟩ : ∃ r, zBe (zCe xs L 0) 8 = r ∧ r < 8 := ⟨_, rfl, zBe_lt _ (by omega)⟩
  refine zW.top (y := nI r16) (congrArg nI hr16) ?_
  refine z_iadd C dL_build_19 (v := nI (1 + r16)) (nI_add 1 r16) ?_
  refine z_istore_n C dL_build_20 (by decide) [(3, .int (nI (1 + r16))), (2, .ref n0), (0, .ref (q 0)), (1, .ref b)] rfl ?_
  refine z_iconst C (nI 1) dL_build_21 (by decide) ?_
  refine z_aload_n C dL_build_22 3 rfl ?_
  refine z_iconst C (nI 1) dL_build_23 (by decide) ?_
  refine z_callSx C S (c_L_cell l g (wB g q zA0 (zG0 zA0) bs wb pd gw ++ (wS g p zA0 (0, 0, 0))) b L xs (by omega) 1 (by omega)) (va_cwS 2 C.ts gL_build_L_cell rfl rfl rfl (by decide +kernel) ⟨Nat.le_of_ble_eq_true rfl, Nat.le_of_ble_eq_true rfl⟩) rfl rfl (Nat.le_of_ble_eq_true rfl) dL_build_24 ⟨by dsimp only; omega, by dsimp only; omega⟩ ?_
  rintro _ _ ⟨rfl, rfl⟩
  refine zW.eqst (st2 := [.int (zCe xs L 1), .int (nI 1)]) rfl ?_
  refine z_iconst C (nI 5) dL_build_27 (by decide) ?_
  refine z_callS C (c_L_below l g (wB g q zA0 (zG0 zA0) bs wb pd gw ++ (wS g p zA0 (0, 0, 0))) (zCe xs L 1) 5 (by omega) (by omega)) (va_cwS 2 C.ts gL_build_L_below rfl rfl rfl (by decide +kernel) ⟨Nat.le_of_ble_eq_true rfl, Nat.le_of_ble_eq_true rfl⟩) rfl rfl (Nat.le_of_ble_eq_true rfl) dL_build_28 ⟨by dsimp only; omega, by dsimp only; omega⟩ ?_
  rintro _ _ ⟨rfl, rfl⟩
  refine zW.eqst (st2 := [.int (nI (zBe (zCe xs L 1) 5)), .int (nI 1)]) rfl ?_
  obtain ⟨r28, hr28, hl28⟩ : ∃ r, zBe (zCe xs L 1) 5 = r ∧ r < 5 := ⟨_, rfl, zBe_lt _ (by omega)⟩
  refine zW.top (y := nI r28) (congrArg nI hr28) ?_
  refine z_iadd C dL_build_31 (v := nI (1 + r28)) (nI_add 1 r28) ?_
  refine z_istore C dL_build_32 (by decide) [(4, .int (nI (1 + r28))), (3, .int (nI (1 + r16))), (2, .ref n0), (0, .ref (q 0)), (1, .ref b)] rfl ?_
  obtain ⟨p0, he0⟩ : ∃ p0, p 0 = p0 := ⟨_, rfl⟩
  refine zW.lve (lv' := [(4, .int (nI (1 + r28))), (3, .int (nI (1 + r16))), (2, .ref p0), (0, .ref (q 0)), (1, .ref b)]) (by rw [← he0, e0]) ?_
  refine z_iconst C (nI 0) dL_build_34 (by decide) ?_
  refine z_istore C dL_build_35 (by decide) [(5, .int (nI 0)), (4, .int (nI (1 + r28))), (3, .int (nI (1 + r16))), (2, .ref p0), (0, .ref (q 0)), (1, .ref b)] rfl ?_
  refine zW.pick (lv' := [(0, .ref (q 0)), (1, .ref b), (2, .ref p0), (3, .int (nI (1 + r16))), (4, .int (nI (1 + r28))), (5, .int (nI 0))]) [4, 5, 3, 2, 1, 0] rfl ?_
  have hlp37 : ∀ (k i : Nat) (a : zS) (p : Nat → Nat) (bs : Nat → Int × Nat) (wb : Nat → Nat → Int) (pd : Nat → Nat → Int) (gw : Nat → Nat → Int), i + k = (1 + r16) → (zInv a) → (zSet a bs wb pd gw 0 0) → (zNf a = i) → (zNd a = 0) → (zOu a = 0) → (zNb a = 0) → (p 0 = p0) → zW g l ({ frames := 32, cells := 65, slots := 525, locals := 861 }) E (zMQ g E ((fun v W => ∃ p0 : Nat, v = some (.ref p0) ∧ zBoth g q p0 W)) 65 525) 7 (4 + i) (6 + 9 * i) (wB g q a (zG0 a) bs wb pd gw ++ (wS g p a (0, 0, 0))) [(0, .ref (q 0)), (1, .ref b), (2, .ref p0), (3, .int (nI (1 + r16))), (4, .int (nI (1 + r28))), (5, .int (nI i))] [] 37 := by
    intro k
    induction k with
    | zero =>
      intro i a p bs wb pd gw hik hi9 hs hf hd0 ho0 hb0 hp0
      have ha := hi9.1
      obtain ⟨hnf, hnd, hnb, hou, hrs, hbd⟩ := id ha
      refine z_iload C dL_build_37 5 rfl ?_
      refine z_iload_n C dL_build_39 3 rfl ?_
      refine z_icmp_ge C 109 dL_build_40 (by decide) (zle_NN (by omega) (by omega)) (fun c_40 => ?_) (fun h9 => absurd (by omega) h9)
      refine zW.wid (k := 12) (n := 78) (by omega) (by omega) ?_
      refine zW.lve (lv' := [(0, .ref (q 0)), (1, .ref b), (2, .ref (p 0)), (3, .int (nI (1 + r16))), (4, .int (nI (1 + r28))), (5, .int (nI i))]) (by rw [hp0]) ?_
      refine z_aload_n C dL_build_109 2 rfl ?_
      refine z_iload C dL_build_110 4 rfl ?_
      refine z_newaZ C (C.w 5 rfl) (n := 1 + r28) (by omega) (by dsimp only; omega) (by dsimp only; omega) dL_build_112 (fun x112 => ?_)
      refine zW.eqw (ws2 := wB g q a (zG0 a) bs wb pd gw ++ (wS g p a (0, 0, 0) ++ [(x112, .inl (zZ g, 1 + r28, .inl (fun _ => nI 0)))])) (List.append_assoc _ _ _) ?_
      refine z_put C inL_build_X3 tyX3_ok nmX3 (20 + 0) (zapp_B (zapp_l wS_o)) rfl 1 (by decide) (C.w 6 rfl) rfl (tyX3_ok 1 (by decide)) rfl rfl (Nat.le_of_ble_eq_true rfl) dL_build_114 (zset_B rfl) ?_
      rw [zDc_0]
      have e9 : zSetNd a 0 = a := zSetNd_id hd0
      refine zW.eqw (ws2 := wB g q (zSetNd a 0) (zG0 (zSetNd a 0)) bs wb pd gw ++ (((wS g p a (0, 0, 0)).set 0 (p 0, zOb (p 1) x112 (p 3) (0, 0, 0)) ++ [(x112, .inl (zZ g, 1 + r28, .inl (fun j => bI (decide (j < 0)))))]))) (by rw [e9]; rfl) ?_
      refine z_iconst C (nI 0) dL_build_117 (by decide) ?_
      refine z_istore C dL_build_118 (by decide) [(5, .int (nI 0)), (0, .ref (q 0)), (1, .ref b), (2, .ref (p 0)), (3, .int (nI (1 + r16))), (4, .int (nI (1 + r28)))] rfl ?_
      refine zW.pick (lv' := [(0, .ref (q 0)), (1, .ref b), (2, .ref (p 0)), (4, .int (nI (1 + r28))), (5, .int (nI 0))]) [1, 2, 3, 5, 0] rfl ?_
      have hlp120 : ∀ (k2 i2 : Nat) (bs3 : Nat → Int × Nat) (wb3 : Nat → Nat → Int) (pd3 : Nat → Nat → Int) (gw3 : Nat → Nat → Int), i2 + k2 = (1 + r28) → (zInv (zSetNd a i2)) → (zSet (zSetNd a i2) bs3 wb3 pd3 gw3 0 0) → zW g l ({ frames := 32, cells := 65, slots := 525, locals := 861 }) E (zMQ g E ((fun v W => ∃ p0 : Nat, v = some (.ref p0) ∧ zBoth g q p0 W)) 65 525) 7 (12 + 1) (78 + (1 + r28)) (wB g q (zSetNd a i2) (zG0 (zSetNd a i2)) bs3 wb3 pd3 gw3 ++ (((wS g p a (0, 0, 0)).set 0 (p 0, zOb (p 1) x112 (p 3) (0, 0, 0)) ++ [(x112, .inl (zZ g, 1 + r28, .inl (fun j => bI (decide (j < i2)))))]))) [(0, .ref (q 0)), (1, .ref b), (2, .ref (p 0)), (4, .int (nI (1 + r28))), (5, .int (nI i2))] [] 120 := by
        intro k2
        induction k2 with
        | zero =>
          intro i2 bs3 wb3 pd3 gw3 hi2k hi3 hs3
          refine z_iload C dL_build_120 4 rfl ?_
          refine z_iload C dL_build_122 3 rfl ?_
          refine z_icmp_ge C 152 dL_build_124 (by decide) (zle_NN (by omega) (by omega)) (fun c_124 => ?_) (fun h9 => absurd (by omega) h9)
          have ei : i2 = 1 + r28 := by omega
          subst ei
          refine zNewInM ho0 (fun p4 hp4 => ?_)
          refine zW.lve (lv' := [(0, .ref (q 0)), (1, .ref b), (2, .ref (p4 0)), (4, .int (nI (1 + r28))), (5, .int (nI (1 + r28)))]) (by rw [hp4]) ?_
          refine z_iconst C (nI 3) dL_build_152 (by decide) ?_
          refine z_aload_n C dL_build_153 1 rfl ?_
          refine z_bipush C (nI 11) dL_build_154 (by decide) ?_
          refine z_callSx C S (c_L_cell l g (wB g q (zSetNd a (1 + r28)) (zG0 (zSetNd a (1 + r28))) bs3 wb3 pd3 gw3 ++ (wS g p4 (zSetNd a (1 + r28)) (0, 0, 0))) b L xs (by omega) 11 (by omega)) (va_cwS 2 C.ts gL_build_L_cell rfl rfl rfl (by decide +kernel) ⟨Nat.le_of_ble_eq_true rfl, Nat.le_of_ble_eq_true rfl⟩) rfl rfl (Nat.le_of_ble_eq_true rfl) dL_build_156 ⟨by dsimp only; omega, by dsimp only; omega⟩ ?_
          rintro _ _ ⟨rfl, rfl⟩
          refine zW.eqst (st2 := [.int (zCe xs L 11), .int (nI 3)]) rfl ?_
          refine z_bipush C (nI 24) dL_build_159 (by decide) ?_
          refine z_callS C (c_L_below l g (wB g q (zSetNd a (1 + r28)) (zG0 (zSetNd a (1 + r28))) bs3 wb3 pd3 gw3 ++ (wS g p4 (zSetNd a (1 + r28)) (0, 0, 0))) (zCe xs L 11) 24 (by omega) (by omega)) (va_cwS 2 C.ts gL_build_L_below rfl rfl rfl (by decide +kernel) ⟨Nat.le_of_ble_eq_true rfl, Nat.le_of_ble_eq_true rfl⟩) rfl rfl (Nat.le_of_ble_eq_true rfl) dL_build_161 ⟨by dsimp only; omega, by dsimp only; omega⟩ ?_
          rintro _ _ ⟨rfl, rfl⟩
          refine zW.eqst (st2 := [.int (nI (zBe (zCe xs L 11) 24)), .int (nI 3)]) rfl ?_
          obtain ⟨r161, hr161, hl161⟩ : ∃ r, zBe (zCe xs L 11) 24 = r ∧ r < 24 := ⟨_, rfl, zBe_lt _ (by omega)⟩
          refine zW.top (y := nI r161) (congrArg nI hr161) ?_
          refine z_iadd C dL_build_164 (v := nI (3 + r161)) (nI_add 3 r161) ?_
          refine z_istore C dL_build_165 (by decide) [(5, .int (nI (3 + r161))), (0, .ref (q 0)), (1, .ref b), (2, .ref (p4 0)), (4, .int (nI (1 + r28)))] rfl ?_
          refine zW.wid (k := 13) (n := 83) (by omega) (by omega) ?_
          refine zW.lve (lv' := [(5, .int (nI (3 + r161))), (0, .ref (q 0)), (1, .ref b), (2, .ref p0), (4, .int (nI (1 + r28)))]) (by rw [hp4, hp0]) ?_
          refine z_iconst C (nI 0) dL_build_167 (by decide) ?_
          refine z_istore C dL_build_168 (by decide) [(6, .int (nI 0)), (5, .int (nI (3 + r161))), (0, .ref (q 0)), (1, .ref b), (2, .ref p0), (4, .int (nI (1 + r28)))] rfl ?_
          refine zW.pick (lv' := [(0, .ref (q 0)), (1, .ref b), (2, .ref p0), (5, .int (nI (3 + r161))), (6, .int (nI 0))]) [2, 3, 4, 1, 0] rfl ?_
          have hlp170 : ∀ (k3 i3 : Nat) (a : zS) (p : Nat → Nat) (bs : Nat → Int × Nat) (wb : Nat → Nat → Int) (pd : Nat → Nat → Int) (gw : Nat → Nat → Int) (sm : Int × Nat × Nat), i3 + k3 = (3 + r161) → (zInv a) → (zSet a bs wb pd gw 0 0) → (p 0 = p0) → zW g l ({ frames := 32, cells := 65, slots := 525, locals := 861 }) E (zMQ g E ((fun v W => ∃ p0 : Nat, v = some (.ref p0) ∧ zBoth g q p0 W)) 65 525) 7 (13 + 2 * i3) (83 + 17 * i3) (wB g q a (zG0 a) bs wb pd gw ++ (wS g p a sm)) [(0, .ref (q 0)), (1, .ref b), (2, .ref p0), (5, .int (nI (3 + r161))), (6, .int (nI i3))] [] 170 := by
            intro k3
            induction k3 with
            | zero =>
              intro i3 a p bs wb pd gw sm hi3k hi9 hs hp0
              refine z_iload C dL_build_170 4 rfl ?_
              refine z_iload C dL_build_172 3 rfl ?_
              refine z_icmp_ge C 217 dL_build_174 (by decide) (zle_NN (by omega) (by omega)) (fun c_174 => ?_) (fun h9 => absurd (by omega) h9)
              refine zW.wid (k := 65) (n := 525) (by omega) (by omega) ?_
              refine z_aload_n C dL_build_217 2 rfl ?_
              exact z_aret (Or.inl ⟨_, rfl⟩) C dL_build_218 ⟨p0, rfl, a, p, bs, wb, pd, gw, sm, rfl, hp0, hi9, hs⟩
            | succ k3 ih170 =>
              intro i3 a p bs wb pd gw sm hi3k hi9 hs hp0
              have ha := hi9.1
              refine z_iload C dL_build_170 4 rfl ?_
              refine z_iload C dL_build_172 3 rfl ?_
              refine z_icmp_ge C 217 dL_build_174 (by decide) (zle_NN (by omega) (by omega)) (fun h9 => absurd h9 (by omega)) (fun c_174 => ?_)
              refine zW.lve (lv' := [(0, .ref (q 0)), (1, .ref b), (2, .ref (p 0)), (5, .int (nI (3 + r161))), (6, .int (nI i3))]) (by rw [hp0]) ?_
              refine z_aload_n C dL_build_177 0 rfl ?_
              refine z_aload_n C dL_build_178 2 rfl ?_
              refine z_aload_n C dL_build_179 1 rfl ?_
              refine z_iload C dL_build_180 4 rfl ?_
              refine z_bipush C (nI 16) dL_build_182 (by decide) ?_
              refine z_irem C dL_build_184 (by decide) (v := nI (i3 % 16)) (pk_rem (by omega) (by decide) (by decide)) ?_
              refine z_callSx C S (c_L_cell l g (wB g q a (zG0 a) bs wb pd gw ++ (wS g p a sm)) b L xs (by omega) (i3 % 16) (by omega)) (va_cwS 2 C.ts gL_build_L_cell rfl rfl rfl (by decide +kernel) ⟨Nat.le_of_ble_eq_true rfl, Nat.le_of_ble_eq_true rfl⟩) rfl rfl (Nat.le_of_ble_eq_true rfl) dL_build_185 ⟨by dsimp only; omega, by dsimp only; omega⟩ ?_
              rintro _ _ ⟨rfl, rfl⟩
              refine zW.eqst (st2 := [.int (zCe xs L (i3 % 16)), .ref (p 0), .ref (q 0)]) rfl ?_
              refine z_iload C dL_build_188 4 rfl ?_
              refine z_bipush C (nI 16) dL_build_190 (by decide) ?_
              refine z_idiv C dL_build_192 (by decide) (v := ((nI i3) / (nI 16))) rfl ?_
              refine z_iconst C (nI 3) dL_build_193 (by decide) ?_
              refine z_imul C dL_build_194 (v := (((nI i3) / (nI 16)) * (nI 3))) rfl ?_
              refine z_ishr C dL_build_195 (v := ((zCe xs L (i3 % 16)) >>> ((((nI i3) / (nI 16)) * (nI 3)) &&& 31))) rfl ?_
              refine z_sipush C (nI 389) dL_build_196 (by decide) ?_
              refine z_iload C dL_build_199 4 rfl ?_
              refine z_imul C dL_build_201 (v := nI (389 * i3)) (pk_mul 389 i3) ?_
              refine z_iadd C dL_build_202 (v := (((zCe xs L (i3 % 16)) >>> ((((nI i3) / (nI 16)) * (nI 3)) &&& 31)) + (nI (389 * i3)))) rfl ?_
              refine z_callS C (c_L_act l g q p a bs wb pd gw sm (((zCe xs L (i3 % 16)) >>> ((((nI i3) / (nI 16)) * (nI 3)) &&& 31)) + (nI (389 * i3))) hi9 hs) (va_cwS 3 C.ts gL_build_L_act rfl rfl rfl (by decide +kernel) ⟨Nat.le_of_ble_eq_true rfl, Nat.le_of_ble_eq_true rfl⟩) rfl rfl (Nat.le_of_ble_eq_true rfl) dL_build_203 ⟨by dsimp only; omega, by dsimp only; omega⟩ ?_
              rintro _ _ ⟨rfl, a2, p2, bs2, wb2, pd2, gw2, sm2, rfl, hp2, hi2, hs2⟩
              refine zW.eqst (st2 := [.int (bI true)]) rfl ?_
              refine z_if_ne C 211 dL_build_206 (by decide) (zeq_B0 _) (fun c_206 => ?_) (fun h9 => absurd h9 (by decide))
              refine z_iinc C dL_build_211 4 (nI (i3 + 1)) rfl (nI_add i3 1) (by decide) [(6, .int (nI (i3 + 1))), (0, .ref (q 0)), (1, .ref b), (2, .ref (p 0)), (5, .int (nI (3 + r161)))] rfl ?_
              refine z_goto C 170 dL_build_214 (by decide) ?_
              refine zW.pick (lv' := [(0, .ref (q 0)), (1, .ref b), (2, .ref (p 0)), (5, .int (nI (3 + r161))), (6, .int (nI (i3 + 1)))]) [1, 2, 3, 4, 0] rfl ?_
              refine zW.lve (lv' := [(0, .ref (q 0)), (1, .ref b), (2, .ref p0), (5, .int (nI (3 + r161))), (6, .int (nI (i3 + 1)))]) (by rw [hp0]) ?_
              refine zW.wid (k := 13 + 2 * (i3 + 1)) (n := 83 + 17 * (i3 + 1)) (by omega) (by omega) ?_
              exact ih170 (i3 + 1) a2 p2 bs2 wb2 pd2 gw2 sm2 (by omega) hi2 hs2 (by rw [hp2, hp0])
          exact hlp170 ((3 + r161)) 0 (zSetNd a (1 + r28)) p4 bs3 wb3 pd3 gw3 (0, 0, 0) (by omega) hi3 hs3 (by rw [hp4, hp0])
        | succ k2 ih120 =>
          intro i2 bs3 wb3 pd3 gw3 hi2k hi3 hs3
          refine z_iload C dL_build_120 4 rfl ?_
          refine z_iload C dL_build_122 3 rfl ?_
          refine z_icmp_ge C 152 dL_build_124 (by decide) (zle_NN (by omega) (by omega)) (fun h9 => absurd h9 (by omega)) (fun c_124 => ?_)
          refine z_aload_n C dL_build_127 2 rfl ?_
          refine z_get C inL_build_X3 (20 + 0) (zapp_B (zapp_l zset0_self)) rfl 1 (by decide) (C.w 6 rfl) rfl dL_build_128 ?_
          refine z_iload C dL_build_131 4 rfl ?_
          refine z_iconst C (nI 1) dL_build_133 (by decide) ?_
          refine z_zastN C (20 + (4 + zNb a + 0)) (zapp_B (zset0_new (k := 0) rfl)) (by omega) (by omega) (show vp_nar .boolean (nI 1) = bI true from rfl) dL_build_134 (zset_B (zset0_put (k := 0) (by rw [zDc_s] <;> rfl))) ?_
          refine z_aload_n C dL_build_135 0 rfl ?_
          refine z_callV C (zM.fl (c_X2_join l g q (zSetNd a i2) bs3 wb3 pd3 gw3 hi3 hs3 (show i2 < 5 by omega)) (((wS g p a (0, 0, 0)).set 0 (p 0, zOb (p 1) x112 (p 3) (0, 0, 0)) ++ [(x112, .inl (zZ g, 1 + r28, .inl (fun j => bI (decide (j < i2 + 1)))))]))) (cwV 0 C.ts gL_build_X2_join rfl rfl rfl (by decide +kernel) ⟨Nat.le_of_ble_eq_true rfl, Nat.le_of_ble_eq_true rfl⟩) (zapp_l wB_o) rfl rfl rfl (Nat.le_of_ble_eq_true rfl) dL_build_136 ⟨by dsimp only; omega, by dsimp only; omega⟩ ?_
          rintro _ _ ⟨_, ⟨rfl, bs1, wb1, pd1, gw1, rfl, hs1⟩, rfl⟩
          refine zW.eqst (st2 := [.int (nI i2)]) rfl ?_
          refine z_iload C dL_build_139 4 rfl ?_
          refine z_icmp_eq C 146 dL_build_141 (by decide) (zeq_NN (by omega) (by omega)) (fun c_141 => ?_) (fun h9 => absurd rfl h9)
          refine z_iinc C dL_build_146 4 (nI (i2 + 1)) rfl (nI_add i2 1) (by decide) [(5, .int (nI (i2 + 1))), (0, .ref (q 0)), (1, .ref b), (2, .ref (p 0)), (4, .int (nI (1 + r28)))] rfl ?_
          refine z_goto C 120 dL_build_149 (by decide) ?_
          refine zW.pick (lv' := [(0, .ref (q 0)), (1, .ref b), (2, .ref (p 0)), (4, .int (nI (1 + r28))), (5, .int (nI (i2 + 1)))]) [1, 2, 3, 4, 0] rfl ?_
          exact ih120 (i2 + 1) bs1 wb1 pd1 gw1 (by omega) (zInv_join hi3 (show i2 < 5 by omega)) hs1
      exact hlp120 ((1 + r28)) 0 bs wb pd gw (by omega) (by rw [e9]; exact hi9) (by rw [e9]; exact hs)
    | succ k ih37 =>
      intro i a p bs wb pd gw hik hi9 hs hf hd0 ho0 hb0 hp0
      have ha := hi9.1
      obtain ⟨hnf, hnd, hnb, hou, hrs, hbd⟩ := id ha
      refine z_iload C dL_build_37 5 rfl ?_
      refine z_iload_n C dL_build_39 3 rfl ?_
      refine z_icmp_ge C 109 dL_build_40 (by decide) (zle_NN (by omega) (by omega)) (fun h9 => absurd h9 (by omega)) (fun c_40 => ?_)
      refine zW.lve (lv' := [(0, .ref (q 0)), (1, .ref b), (2, .ref (p 0)), (3, .int (nI (1 + r16))), (4, .int (nI (1 + r28))), (5, .int (nI i))]) (by rw [hp0]) ?_
      refine z_aload_n C dL_build_43 2 rfl ?_
      refine z_aload_n C dL_build_44 2 rfl ?_
      refine z_get C inL_build_X3 (20 + 0) (zapp_B wS_o) rfl 0 (by decide) (C.w 4 rfl) rfl dL_build_45 ?_
      refine z_aload_n C dL_build_48 1 rfl ?_
      refine z_iconst C (nI 2) dL_build_49 (by decide) ?_
      refine z_iload C dL_build_50 5 rfl ?_
      refine z_iadd C dL_build_52 (v := nI (2 + i)) (nI_add 2 i) ?_
      refine z_callSx C S (c_L_cell l g (wB g q a (zG0 a) bs wb pd gw ++ (wS g p a (0, 0, 0))) b L xs (by omega) (2 + i) (by omega)) (va_cwS 2 C.ts gL_build_L_cell rfl rfl rfl (by decide +kernel) ⟨Nat.le_of_ble_eq_true rfl, Nat.le_of_ble_eq_true rfl⟩) rfl rfl (Nat.le_of_ble_eq_true rfl) dL_build_53 ⟨by dsimp only; omega, by dsimp only; omega⟩ ?_
      rintro _ _ ⟨rfl, rfl⟩
      refine zW.eqst (st2 := [.int (zCe xs L (2 + i)), .ref (p 1), .ref (p 0)]) rfl ?_
      refine z_aload_n C dL_build_56 1 rfl ?_
      refine z_bipush C (nI 10) dL_build_57 (by decide) ?_
      refine z_callSx C S (c_L_cell l g (wB g q a (zG0 a) bs wb pd gw ++ (wS g p a (0, 0, 0))) b L xs (by omega) 10 (by omega)) (va_cwS 2 C.ts gL_build_L_cell rfl rfl rfl (by decide +kernel) ⟨Nat.le_of_ble_eq_true rfl, Nat.le_of_ble_eq_true rfl⟩) rfl rfl (Nat.le_of_ble_eq_true rfl) dL_build_59 ⟨by dsimp only; omega, by dsimp only; omega⟩ ?_
      rintro _ _ ⟨rfl, rfl⟩
      refine zW.eqst (st2 := [.int (zCe xs L 10), .int (zCe xs L (2 + i)), .ref (p 1), .ref (p 0)]) rfl ?_
      refine z_iconst C (nI 2) dL_build_62 (by decide) ?_
      refine z_callS C (c_L_below l g (wB g q a (zG0 a) bs wb pd gw ++ (wS g p a (0, 0, 0))) (zCe xs L 10) 2 (by omega) (by omega)) (va_cwS 2 C.ts gL_build_L_below rfl rfl rfl (by decide +kernel) ⟨Nat.le_of_ble_eq_true rfl, Nat.le_of_ble_eq_true rfl⟩) rfl rfl (Nat.le_of_ble_eq_true rfl) dL_build_63 ⟨by dsimp only; omega, by dsimp only; omega⟩ ?_
      rintro _ _ ⟨rfl, rfl⟩
      refine zW.eqst (st2 := [.int (nI (zBe (zCe xs L 10) 2)), .int (zCe xs L (2 + i)), .ref (p 1), .ref (p 0)]) rfl ?_
      obtain ⟨r63, hr63, hl63⟩ : ∃ r, zBe (zCe xs L 10) 2 = r ∧ r < 2 := ⟨_, rfl, zBe_lt _ (by omega)⟩
      refine zW.top (y := nI r63) (congrArg nI hr63) ?_
      refine z_if_ne C 74 dL_build_66 (by decide) (zeq_N0 (by omega)) (fun c_66 => ?_) (fun c_66 => ?_)
      · skip
        refine z_bipush C (nI 20) dL_build_74 (by decide) ?_
        refine z_callS C (c_L_below l g (wB g q a (zG0 a) bs wb pd gw ++ (wS g p a (0, 0, 0))) (zCe xs L (2 + i)) 20 (by omega) (by omega)) (va_cwS 2 C.ts gL_build_L_below rfl rfl rfl (by decide +kernel) ⟨Nat.le_of_ble_eq_true rfl, Nat.le_of_ble_eq_true rfl⟩) rfl rfl (Nat.le_of_ble_eq_true rfl) dL_build_76 ⟨by dsimp only; omega, by dsimp only; omega⟩ ?_
        rintro _ _ ⟨rfl, rfl⟩
        refine zW.eqst (st2 := [.int (nI (zBe (zCe xs L (2 + i)) 20)), .ref (p 1), .ref (p 0)]) rfl ?_
        obtain ⟨r76, hr76, hl76⟩ : ∃ r, zBe (zCe xs L (2 + i)) 20 = r ∧ r < 20 := ⟨_, rfl, zBe_lt _ (by omega)⟩
        refine zW.top (y := nI r76) (congrArg nI hr76) ?_
        refine z_callS C (c_L_with l g (wB g q a (zG0 a) bs wb pd gw ++ (wS g p a (0, 0, 0))) (20 + 1) (p 1) (zNf a) (zRf a) r76 (zapp_B wS_rs) (by omega)) (va_cwS 2 C.ts gL_build_L_with rfl rfl rfl (by decide +kernel) ⟨Nat.le_of_ble_eq_true rfl, Nat.le_of_ble_eq_true rfl⟩) rfl rfl (Nat.le_of_ble_eq_true rfl) dL_build_79 ⟨by dsimp only; omega, by dsimp only; omega⟩ ?_
        rintro _ _ ⟨x79, rfl, rfl⟩
        refine zW.eqst (st2 := [.ref x79, .ref (p 0)]) rfl ?_
        refine zW.eqw (ws2 := wB g q a (zG0 a) bs wb pd gw ++ (wS g p a (0, 0, 0) ++ [(x79, .inl (zI g, zNf a + 1, .inl (fun j => nI (zWh (zNf a) (zRf a) r76 j))))])) (List.append_assoc _ _ _) ?_
        refine z_put C inL_build_X3 tyX3_ok nmX3 (20 + 0) (zapp_B (zapp_l wS_o)) rfl 0 (by decide) (C.w 4 rfl) rfl (tyX3_ok 0 (by decide)) rfl rfl (Nat.le_of_ble_eq_true rfl) dL_build_82 (zset_B rfl) ?_
        refine zNewRs (a := a) (r := r76) (fun p2 hp2 => ?_)
        have h1 : zInv (zAF a r76) := zInv_new hi9 (by omega) (by omega)
        have hnf2 : zNf (zAF a r76) = zNf a + 1 := rfl
        refine zW.lve (lv' := [(0, .ref (q 0)), (1, .ref b), (2, .ref (p2 0)), (3, .int (nI (1 + r16))), (4, .int (nI (1 + r28))), (5, .int (nI i))]) (by rw [hp2]) ?_
        refine z_aload_n C dL_build_85 0 rfl ?_
        refine z_aload_n C dL_build_86 2 rfl ?_
        refine z_get C inL_build_X3 (20 + 0) (zapp_B wS_o) rfl 0 (by decide) (C.w 4 rfl) rfl dL_build_87 ?_
        refine z_iload C dL_build_90 5 rfl ?_
        refine z_ialdN C (20 + 1) (zapp_B wS_rs) (by omega) (by omega) dL_build_92 (v := nI (zRf (zAF a r76) i)) rfl ?_
        have f_92b := zRf_le h1.1 i
        refine zW.top (y := nI r76) (by rw [← hf]; exact congrArg nI (zRf_AFn a r76)) ?_
        refine z_callV C (zM.fl (c_X2_field l g q a bs wb pd gw hi9 hs r76 (by omega) (by omega)) (wS g p2 (zAF a r76) (0, 0, 0))) (cwV 1 C.ts gL_build_X2_field rfl rfl rfl (by decide +kernel) ⟨Nat.le_of_ble_eq_true rfl, Nat.le_of_ble_eq_true rfl⟩) (zapp_l wB_o) rfl rfl rfl (Nat.le_of_ble_eq_true rfl) dL_build_93 ⟨by dsimp only; omega, by dsimp only; omega⟩ ?_
        rintro _ _ ⟨_, ⟨rfl, bs1, wb1, pd1, gw1, rfl, hs1⟩, rfl⟩
        refine zW.eqst (st2 := [.int (nI (zNf a))]) rfl ?_
        refine z_iload C dL_build_96 5 rfl ?_
        refine z_icmp_eq C 103 dL_build_98 (by decide) (zeq_NN (by omega) (by omega)) (fun c_98 => ?_) (fun h9 => absurd hf h9)
        refine z_iinc C dL_build_103 5 (nI (i + 1)) rfl (nI_add i 1) (by decide) [(5, .int (nI (i + 1))), (0, .ref (q 0)), (1, .ref b), (2, .ref (p2 0)), (3, .int (nI (1 + r16))), (4, .int (nI (1 + r28)))] rfl ?_
        refine z_goto C 37 dL_build_106 (by decide) ?_
        refine zW.pick (lv' := [(0, .ref (q 0)), (1, .ref b), (2, .ref (p2 0)), (3, .int (nI (1 + r16))), (4, .int (nI (1 + r28))), (5, .int (nI (i + 1)))]) [1, 2, 3, 4, 5, 0] rfl ?_
        refine zW.lve (lv' := [(0, .ref (q 0)), (1, .ref b), (2, .ref p0), (3, .int (nI (1 + r16))), (4, .int (nI (1 + r28))), (5, .int (nI (i + 1)))]) (by rw [hp2, hp0]) ?_
        refine zW.wid (k := 4 + (i + 1)) (n := 6 + 9 * (i + 1)) (by omega) (by omega) ?_
        exact ih37 (i + 1) (zAF a r76) p2 bs1 wb1 pd1 gw1 (by omega) h1 hs1 (by show zNf a + 1 = i + 1; omega) hd0 ho0 hb0 (by rw [hp2, hp0])
      · skip
        refine z_bipush C (nI 100) dL_build_69 (by decide) ?_
        refine z_goto C 76 dL_build_71 (by decide) ?_
        refine z_callS C (c_L_below l g (wB g q a (zG0 a) bs wb pd gw ++ (wS g p a (0, 0, 0))) (zCe xs L (2 + i)) 100 (by omega) (by omega)) (va_cwS 2 C.ts gL_build_L_below rfl rfl rfl (by decide +kernel) ⟨Nat.le_of_ble_eq_true rfl, Nat.le_of_ble_eq_true rfl⟩) rfl rfl (Nat.le_of_ble_eq_true rfl) dL_build_76 ⟨by dsimp only; omega, by dsimp only; omega⟩ ?_
        rintro _ _ ⟨rfl, rfl⟩
        refine zW.eqst (st2 := [.int (nI (zBe (zCe xs L (2 + i)) 100)), .ref (p 1), .ref (p 0)]) rfl ?_
        obtain ⟨r76, hr76, hl76⟩ : ∃ r, zBe (zCe xs L (2 + i)) 100 = r ∧ r < 100 := ⟨_, rfl, zBe_lt _ (by omega)⟩
        refine zW.top (y := nI r76) (congrArg nI hr76) ?_
        refine z_callS C (c_L_with l g (wB g q a (zG0 a) bs wb pd gw ++ (wS g p a (0, 0, 0))) (20 + 1) (p 1) (zNf a) (zRf a) r76 (zapp_B wS_rs) (by omega)) (va_cwS 2 C.ts gL_build_L_with rfl rfl rfl (by decide +kernel) ⟨Nat.le_of_ble_eq_true rfl, Nat.le_of_ble_eq_true rfl⟩) rfl rfl (Nat.le_of_ble_eq_true rfl) dL_build_79 ⟨by dsimp only; omega, by dsimp only; omega⟩ ?_
        rintro _ _ ⟨x79, rfl, rfl⟩
        refine zW.eqst (st2 := [.ref x79, .ref (p 0)]) rfl ?_
        refine zW.eqw (ws2 := wB g q a (zG0 a) bs wb pd gw ++ (wS g p a (0, 0, 0) ++ [(x79, .inl (zI g, zNf a + 1, .inl (fun j => nI (zWh (zNf a) (zRf a) r76 j))))])) (List.append_assoc _ _ _) ?_
        refine z_put C inL_build_X3 tyX3_ok nmX3 (20 + 0) (zapp_B (zapp_l wS_o)) rfl 0 (by decide) (C.w 4 rfl) rfl (tyX3_ok 0 (by decide)) rfl rfl (Nat.le_of_ble_eq_true rfl) dL_build_82 (zset_B rfl) ?_
        refine zNewRs (a := a) (r := r76) (fun p2 hp2 => ?_)
        have h1 : zInv (zAF a r76) := zInv_new hi9 (by omega) (by omega)
        have hnf2 : zNf (zAF a r76) = zNf a + 1 := rfl
        refine zW.lve (lv' := [(0, .ref (q 0)), (1, .ref b), (2, .ref (p2 0)), (3, .int (nI (1 + r16))), (4, .int (nI (1 + r28))), (5, .int (nI i))]) (by rw [hp2]) ?_
        refine z_aload_n C dL_build_85 0 rfl ?_
        refine z_aload_n C dL_build_86 2 rfl ?_
        refine z_get C inL_build_X3 (20 + 0) (zapp_B wS_o) rfl 0 (by decide) (C.w 4 rfl) rfl dL_build_87 ?_
        refine z_iload C dL_build_90 5 rfl ?_
        refine z_ialdN C (20 + 1) (zapp_B wS_rs) (by omega) (by omega) dL_build_92 (v := nI (zRf (zAF a r76) i)) rfl ?_
        have f_92b := zRf_le h1.1 i
        refine zW.top (y := nI r76) (by rw [← hf]; exact congrArg nI (zRf_AFn a r76)) ?_
        refine z_callV C (zM.fl (c_X2_field l g q a bs wb pd gw hi9 hs r76 (by omega) (by omega)) (wS g p2 (zAF a r76) (0, 0, 0))) (cwV 1 C.ts gL_build_X2_field rfl rfl rfl (by decide +kernel) ⟨Nat.le_of_ble_eq_true rfl, Nat.le_of_ble_eq_true rfl⟩) (zapp_l wB_o) rfl rfl rfl (Nat.le_of_ble_eq_true rfl) dL_build_93 ⟨by dsimp only; omega, by dsimp only; omega⟩ ?_
        rintro _ _ ⟨_, ⟨rfl, bs1, wb1, pd1, gw1, rfl, hs1⟩, rfl⟩
        refine zW.eqst (st2 := [.int (nI (zNf a))]) rfl ?_
        refine z_iload C dL_build_96 5 rfl ?_
        refine z_icmp_eq C 103 dL_build_98 (by decide) (zeq_NN (by omega) (by omega)) (fun c_98 => ?_) (fun h9 => absurd hf h9)
        refine z_iinc C dL_build_103 5 (nI (i + 1)) rfl (nI_add i 1) (by decide) [(5, .int (nI (i + 1))), (0, .ref (q 0)), (1, .ref b), (2, .ref (p2 0)), (3, .int (nI (1 + r16))), (4, .int (nI (1 + r28)))] rfl ?_
        refine z_goto C 37 dL_build_106 (by decide) ?_
        refine zW.pick (lv' := [(0, .ref (q 0)), (1, .ref b), (2, .ref (p2 0)), (3, .int (nI (1 + r16))), (4, .int (nI (1 + r28))), (5, .int (nI (i + 1)))]) [1, 2, 3, 4, 5, 0] rfl ?_
        refine zW.lve (lv' := [(0, .ref (q 0)), (1, .ref b), (2, .ref p0), (3, .int (nI (1 + r16))), (4, .int (nI (1 + r28))), (5, .int (nI (i + 1)))]) (by rw [hp2, hp0]) ?_
        refine zW.wid (k := 4 + (i + 1)) (n := 6 + 9 * (i + 1)) (by omega) (by omega) ?_
        exact ih37 (i + 1) (zAF a r76) p2 bs1 wb1 pd1 gw1 (by omega) h1 hs1 (by show zNf a + 1 = i + 1; omega) hd0 ho0 hb0 (by rw [hp2, hp0])
  exact hlp37 ((1 + r16)) 0 zA0 p bs wb pd gw (by omega) zInv_A0 hs rfl rfl rfl rfl he0
