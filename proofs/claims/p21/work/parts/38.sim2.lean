def zSmO (x : Int × Nat × Nat) : Prop := 0 ≤ x.1 ∧ x.1 ≤ 4995 ∧ x.2.1 ≤ 5 ∧ x.2.2 ≤ 10240
def zChO (who : Nat) (gi : Int) (n m : Nat) : Prop := 0 ≤ gi ∧ gi ≤ 999 * who ∧ n ≤ who ∧ m ≤ 2048 * who
def zChF (a : zS) (wo : Int) (k who tf : Nat) (gi : Int) (n m : Nat) (y : Int × Nat × Nat) (b : Nat) : Int × Nat × Nat := if zOw a b = who ∧ zCn a (zOu a) b = true ∧ zBu a b &&& tf = 0 then zCh a wo k y (who + 1) (tf ||| zBu a b) (gi + zGn a b) (n + 1) (m + 2 ^ b) else y
theorem zCh_s (a : zS) (wo : Int) (k : Nat) (x : Int × Nat × Nat) (who tf : Nat) (gi : Int) (n m : Nat) : zCh a wo (k + 1) x who tf gi n m = if (who : Int) = wo then zCh a wo k x (who + 1) tf gi n m else zChf (zChF a wo k who tf gi n m) (zNb a) (zCh a wo k x (who + 1) tf gi n m) := rfl
theorem zChf_y {a : zS} {wo : Int} {k who tf : Nat} {gi : Int} {n m i : Nat} {x1 : Int × Nat × Nat} (h : zOw a i = who ∧ zCn a (zOu a) i = true ∧ zBu a i &&& tf = 0) : zChf (zChF a wo k who tf gi n m) (i + 1) x1 = zCh a wo k (zChf (zChF a wo k who tf gi n m) i x1) (who + 1) (tf ||| zBu a i) (gi + zGn a i) (n + 1) (m + 2 ^ i) := if_pos h
theorem zChf_n {a : zS} {wo : Int} {k who tf : Nat} {gi : Int} {n m i : Nat} {x1 : Int × Nat × Nat} (h : ¬ (zOw a i = who ∧ zCn a (zOu a) i = true ∧ zBu a i &&& tf = 0)) : zChf (zChF a wo k who tf gi n m) (i + 1) x1 = zChf (zChF a wo k who tf gi n m) i x1 := if_neg h
theorem zChO_n {a : zS} (ha : zOk a) {who : Nat} {gi : Int} {n m i : Nat} (h : zChO who gi n m) (hi : i < zNb a) (hc : zCn a (zOu a) i = true) : zChO (who + 1) (gi + zGn a i) (n + 1) (m + 2 ^ i) := by
  obtain ⟨h1, h2, h3, h4⟩ := h
  have g1 := zCn_ge hc
  have g2 := zGn_bnd ha hi
  have g3 := ha.2.2.1
  have g4 : 2 ^ i ≤ 2 ^ 11 := zp2_le (by omega)
  exact ⟨by omega, by omega, by omega, by omega⟩
theorem zChO_s {who : Nat} {gi : Int} {n m : Nat} (h : zChO who gi n m) : zChO (who + 1) gi n m := by
  obtain ⟨h1, h2, h3, h4⟩ := h
  exact ⟨by omega, by omega, by omega, by omega⟩
theorem zChF_ok {a : zS} (ha : zOk a) {wo : Int} {k who tf : Nat} {gi : Int} {n m : Nat} (ih : ∀ (x : Int × Nat × Nat) (who tf : Nat) (gi : Int) (n m : Nat), who + k = zNd a → zSmO x → zChO who gi n m → zSmO (zCh a wo k x who tf gi n m)) (hk : who + (k + 1) = zNd a) (ho : zChO who gi n m) {x1 : Int × Nat × Nat} (hx1 : zSmO x1) : ∀ i, i ≤ zNb a → zSmO (zChf (zChF a wo k who tf gi n m) i x1)
  | 0, _ => hx1
  | i + 1, h => by
    have h1 := zChF_ok (tf := tf) ha ih hk ho hx1 i (by omega)
    by_cases hc : zOw a i = who ∧ zCn a (zOu a) i = true ∧ zBu a i &&& tf = 0
    · rw [zChf_y hc]
      exact ih _ _ _ _ _ _ (by omega) h1 (zChO_n ha ho (by omega) hc.2.1)
    · rw [zChf_n hc]; exact h1
theorem zCh_ok {a : zS} (ha : zOk a) (wo : Int) : ∀ (k : Nat) (x : Int × Nat × Nat) (who tf : Nat) (gi : Int) (n m : Nat), who + k = zNd a → zSmO x → zChO who gi n m → zSmO (zCh a wo k x who tf gi n m) := by
  intro k
  induction k with
  | zero =>
    intro x who tf gi n m hk hx ho
    have hnd := ha.2.1
    obtain ⟨h1, h2, h3, h4⟩ := ho
    show zSmO (zCk x (gi, n, m))
    unfold zCk
    split
    · exact hx
    · exact ⟨h1, by show gi ≤ 4995; omega, by show n ≤ 5; omega, by show m ≤ 10240; omega⟩
  | succ k ih =>
    intro x who tf gi n m hk hx ho
    have h1 := ih x (who + 1) tf gi n m (by omega) hx (zChO_s ho)
    rw [zCh_s]
    split
    · exact h1
    · exact zChF_ok ha ih hk ho h1 _ (Nat.le_refl _)
def zChM (l : Launch) (g : zG) (q : Nat → Nat) (a : zS) (wo : Int) (k : Nat) : Prop := ∀ (x : Int × Nat × Nat) (who tf : Nat) (gi : Int) (n m : Nat), who + k = zNd a → zSmO x → zChO who gi n m → zM g l yX3_choose wsX3_choose { frames := k + 3, cells := 0, slots := 0, locals := 27 * k + 65 } [.ref (q 0), .int (nI who), .int (iZ wo), .int (nI tf), .int (iZ gi), .int (nI n), .int (nI m)] (wS g q a x) (zPv (wS g q a (zCh a wo k x who tf gi n m))) 0 0
theorem inX3_choose_X3 : ∀ w ∈ wsX30, w ∈ wsX3_choose := fun w h => List.mem_cons_of_mem _ (List.mem_append_right _ (h))
set_option maxRecDepth 100000 in
set_option maxHeartbeats 4000000 in
theorem c_X3_choose_0 (l : Launch) (g : zG) (q : Nat → Nat) (a : zS) (x : Int × Nat × Nat) (ha : zOk a) (wo : Int) (hwo9 : -1 ≤ wo ∧ wo < 5) (who tf : Nat) (gi : Int) (n m : Nat) (hk : who + 0 = zNd a) (hx : zSmO x) (ho : zChO who gi n m) : zM g l yX3_choose wsX3_choose { frames := 3, cells := 0, slots := 0, locals := 65 } [.ref (q 0), .int (nI who), .int (iZ wo), .int (nI tf), .int (iZ gi), .int (nI n), .int (nI m)] (wS g q a x) (zPv (wS g q a (zCh a wo 0 x who tf gi n m))) 0 0 := by
  refine zM.of (cc := cX3_choose) (nL := 8) (ret := none) (lv := [(0, .ref (q 0)), (1, .int (nI who)), (2, .int (iZ wo)), (3, .int (nI tf)), (4, .int (iZ gi)), (5, .int (nI n)), (6, .int (nI m))]) (by decide) rfl (Nat.le_of_ble_eq_true rfl) rfl ?_
  intro E C0 hi
  have C : zC g E cX3_choose RX3 wsX3_choose 8 none := C0
  obtain ⟨hnf, hnd, hnb, hou, hrs, hbd⟩ := id ha
  obtain ⟨hx1, hx2, hx3, hx4⟩ := id hx
  obtain ⟨ho1, ho2, ho3, ho4⟩ := id ho
  show zW g l _ E (zMQ g E (zPv (wS g q a (zCk x (gi, n, m)))) 0 0) _ _ _ _ _ _ _
  refine z_iload_n C dX3_choose_0 1 rfl ?_
  refine z_aload_n C dX3_choose_1 0 rfl ?_
  refine z_get C inX3_choose_X3 0 wS_o rfl 1 (by decide) (C.w 1 rfl) rfl dX3_choose_2 ?_
  refine z_alenZ C 2 wS_in dX3_choose_5 ?_
  refine z_icmp_ne C 74 dX3_choose_6 (by decide) (zeq_NN (by omega) (by omega)) (fun h9 => absurd (by omega) h9) (fun c_6 => ?_)
  refine z_iload C dX3_choose_9 4 rfl ?_
  refine z_aload_n C dX3_choose_11 0 rfl ?_
  refine z_get C inX3_choose_X3 0 wS_o rfl 3 (by decide) (C.w 2 rfl) rfl dX3_choose_12 ?_
  refine z_icmp_lt C 54 dX3_choose_15 (by decide) (zlt_ZZ (x := gi) (y := x.1) (by unfold zB31; omega) (by unfold zB31; omega)) (fun c_15 => ?_) (fun c_15 => ?_)
  · skip
    exact z_vretP C dX3_choose_54 (by rw [show zCk x (gi, n, m) = x from if_pos (by dsimp only; omega)])
  · skip
    refine z_iload C dX3_choose_18 4 rfl ?_
    refine z_aload_n C dX3_choose_20 0 rfl ?_
    refine z_get C inX3_choose_X3 0 wS_o rfl 3 (by decide) (C.w 2 rfl) rfl dX3_choose_21 ?_
    refine z_icmp_ne C 55 dX3_choose_24 (by decide) (zeq_ZZ (x := gi) (y := x.1) (by unfold zB31; omega) (by unfold zB31; omega)) (fun c_24 => ?_) (fun c_24 => ?_)
    · skip
      refine z_aload_n C dX3_choose_55 0 rfl ?_
      refine z_iload C dX3_choose_56 4 rfl ?_
      refine z_put C inX3_choose_X3 tyX3_ok nmX3 0 wS_o rfl 3 (by decide) (C.w 2 rfl) rfl (tyX3_ok 3 (by decide)) rfl rfl (Nat.le_of_ble_eq_true rfl) dX3_choose_58 (wS_set_sum (sm := x) gi) ?_
      refine z_aload_n C dX3_choose_61 0 rfl ?_
      refine z_iload C dX3_choose_62 5 rfl ?_
      refine z_put C inX3_choose_X3 tyX3_ok nmX3 0 wS_o rfl 4 (by decide) (C.w 3 rfl) rfl (tyX3_ok 4 (by decide)) rfl rfl (Nat.le_of_ble_eq_true rfl) dX3_choose_64 (wS_set_many (sm := (gi, x.2.1, x.2.2)) n) ?_
      refine z_aload_n C dX3_choose_67 0 rfl ?_
      refine z_iload C dX3_choose_68 6 rfl ?_
      refine z_put C inX3_choose_X3 tyX3_ok nmX3 0 wS_o rfl 5 (by decide) (C.w 4 rfl) rfl (tyX3_ok 5 (by decide)) rfl rfl (Nat.le_of_ble_eq_true rfl) dX3_choose_70 (wS_set_set (sm := (gi, n, x.2.2)) m) ?_
      exact z_vretP C dX3_choose_73 (by rw [show zCk x (gi, n, m) = (gi, n, m) from if_neg (by dsimp only; omega)])
    · skip
      refine z_iload C dX3_choose_27 5 rfl ?_
      refine z_aload_n C dX3_choose_29 0 rfl ?_
      refine z_get C inX3_choose_X3 0 wS_o rfl 4 (by decide) (C.w 3 rfl) rfl dX3_choose_30 ?_
      refine z_icmp_lt C 54 dX3_choose_33 (by decide) (zlt_NN (by omega) (by omega)) (fun c_33 => ?_) (fun c_33 => ?_)
      · skip
        exact z_vretP C dX3_choose_54 (by rw [show zCk x (gi, n, m) = x from if_pos (by dsimp only; omega)])
      · skip
        refine z_iload C dX3_choose_36 5 rfl ?_
        refine z_aload_n C dX3_choose_38 0 rfl ?_
        refine z_get C inX3_choose_X3 0 wS_o rfl 4 (by decide) (C.w 3 rfl) rfl dX3_choose_39 ?_
        refine z_icmp_ne C 55 dX3_choose_42 (by decide) (zeq_NN (by omega) (by omega)) (fun c_42 => ?_) (fun c_42 => ?_)
        · skip
          refine z_aload_n C dX3_choose_55 0 rfl ?_
          refine z_iload C dX3_choose_56 4 rfl ?_
          refine z_put C inX3_choose_X3 tyX3_ok nmX3 0 wS_o rfl 3 (by decide) (C.w 2 rfl) rfl (tyX3_ok 3 (by decide)) rfl rfl (Nat.le_of_ble_eq_true rfl) dX3_choose_58 (wS_set_sum (sm := x) gi) ?_
          refine z_aload_n C dX3_choose_61 0 rfl ?_
          refine z_iload C dX3_choose_62 5 rfl ?_
          refine z_put C inX3_choose_X3 tyX3_ok nmX3 0 wS_o rfl 4 (by decide) (C.w 3 rfl) rfl (tyX3_ok 4 (by decide)) rfl rfl (Nat.le_of_ble_eq_true rfl) dX3_choose_64 (wS_set_many (sm := (gi, x.2.1, x.2.2)) n) ?_
          refine z_aload_n C dX3_choose_67 0 rfl ?_
          refine z_iload C dX3_choose_68 6 rfl ?_
          refine z_put C inX3_choose_X3 tyX3_ok nmX3 0 wS_o rfl 5 (by decide) (C.w 4 rfl) rfl (tyX3_ok 5 (by decide)) rfl rfl (Nat.le_of_ble_eq_true rfl) dX3_choose_70 (wS_set_set (sm := (gi, n, x.2.2)) m) ?_
          exact z_vretP C dX3_choose_73 (by rw [show zCk x (gi, n, m) = (gi, n, m) from if_neg (by dsimp only; omega)])
        · skip
          refine z_iload C dX3_choose_45 6 rfl ?_
          refine z_aload_n C dX3_choose_47 0 rfl ?_
          refine z_get C inX3_choose_X3 0 wS_o rfl 5 (by decide) (C.w 4 rfl) rfl dX3_choose_48 ?_
          refine z_icmp_le C 55 dX3_choose_51 (by decide) (zle_NN (by omega) (by omega)) (fun c_51 => ?_) (fun c_51 => ?_)
          · skip
            refine z_aload_n C dX3_choose_55 0 rfl ?_
            refine z_iload C dX3_choose_56 4 rfl ?_
            refine z_put C inX3_choose_X3 tyX3_ok nmX3 0 wS_o rfl 3 (by decide) (C.w 2 rfl) rfl (tyX3_ok 3 (by decide)) rfl rfl (Nat.le_of_ble_eq_true rfl) dX3_choose_58 (wS_set_sum (sm := x) gi) ?_
            refine z_aload_n C dX3_choose_61 0 rfl ?_
            refine z_iload C dX3_choose_62 5 rfl ?_
            refine z_put C inX3_choose_X3 tyX3_ok nmX3 0 wS_o rfl 4 (by decide) (C.w 3 rfl) rfl (tyX3_ok 4 (by decide)) rfl rfl (Nat.le_of_ble_eq_true rfl) dX3_choose_64 (wS_set_many (sm := (gi, x.2.1, x.2.2)) n) ?_
            refine z_aload_n C dX3_choose_67 0 rfl ?_
            refine z_iload C dX3_choose_68 6 rfl ?_
            refine z_put C inX3_choose_X3 tyX3_ok nmX3 0 wS_o rfl 5 (by decide) (C.w 4 rfl) rfl (tyX3_ok 5 (by decide)) rfl rfl (Nat.le_of_ble_eq_true rfl) dX3_choose_70 (wS_set_set (sm := (gi, n, x.2.2)) m) ?_
            exact z_vretP C dX3_choose_73 (by rw [show zCk x (gi, n, m) = (gi, n, m) from if_neg (by dsimp only; omega)])
          · skip
            exact z_vretP C dX3_choose_54 (by rw [show zCk x (gi, n, m) = x from if_pos (by dsimp only; omega)])
set_option maxRecDepth 100000 in
set_option maxHeartbeats 4000000 in
theorem c_X3_choose_s (l : Launch) (g : zG) (q : Nat → Nat) (a : zS) (x : Int × Nat × Nat) (ha : zOk a) (wo : Int) (hwo9 : -1 ≤ wo ∧ wo < 5) (who tf : Nat) (gi : Int) (n m : Nat) (k : Nat) (hk : who + (k + 1) = zNd a) (hx : zSmO x) (ho : zChO who gi n m) (hC : zChM l g q a wo k) : zM g l yX3_choose wsX3_choose { frames := (k + 1) + 3, cells := 0, slots := 0, locals := 27 * (k + 1) + 65 } [.ref (q 0), .int (nI who), .int (iZ wo), .int (nI tf), .int (iZ gi), .int (nI n), .int (nI m)] (wS g q a x) (zPv (wS g q a (zCh a wo (k + 1) x who tf gi n m))) 0 0 := by
  refine zM.of (cc := cX3_choose) (nL := 8) (ret := none) (lv := [(0, .ref (q 0)), (1, .int (nI who)), (2, .int (iZ wo)), (3, .int (nI tf)), (4, .int (iZ gi)), (5, .int (nI n)), (6, .int (nI m))]) (by decide) rfl (Nat.le_of_ble_eq_true rfl) rfl ?_
  intro E C0 hi
  have C : zC g E cX3_choose RX3 wsX3_choose 8 none := C0
  obtain ⟨hnf, hnd, hnb, hou, hrs, hbd⟩ := id ha
  obtain ⟨hx1, hx2, hx3, hx4⟩ := id hx
  obtain ⟨ho1, ho2, ho3, ho4⟩ := id ho
  refine z_iload_n C dX3_choose_0 1 rfl ?_
  refine z_aload_n C dX3_choose_1 0 rfl ?_
  refine z_get C inX3_choose_X3 0 wS_o rfl 1 (by decide) (C.w 1 rfl) rfl dX3_choose_2 ?_
  refine z_alenZ C 2 wS_in dX3_choose_5 ?_
  refine z_icmp_ne C 74 dX3_choose_6 (by decide) (zeq_NN (by omega) (by omega)) (fun c_6 => ?_) (fun h9 => absurd h9 (by omega))
  refine z_aload_n C dX3_choose_74 0 rfl ?_
  refine z_iload_n C dX3_choose_75 1 rfl ?_
  refine z_iconst C (nI 1) dX3_choose_76 (by decide) ?_
  refine z_iadd C dX3_choose_77 (v := nI (who + 1)) (nI_add who 1) ?_
  refine z_iload_n C dX3_choose_78 2 rfl ?_
  refine z_iload_n C dX3_choose_79 3 rfl ?_
  refine z_iload C dX3_choose_80 4 rfl ?_
  refine z_iload C dX3_choose_82 5 rfl ?_
  refine z_iload C dX3_choose_84 6 rfl ?_
  refine z_callV C (hC x (who + 1) tf gi n m (by omega) hx (zChO_s ho)) (cwV 6 C.ts gX3_choose_X3_choose rfl rfl rfl (by decide +kernel) ⟨by dsimp only; omega, by dsimp only; omega⟩) wS_o rfl rfl rfl (Nat.le_of_ble_eq_true rfl) dX3_choose_86 ⟨Nat.zero_le _, Nat.zero_le _⟩ (z_v ?_)
  obtain ⟨x1, he1⟩ : ∃ x1, x1 = zCh a wo k x (who + 1) tf gi n m := ⟨_, rfl⟩
  rw [← he1]
  have hx9 : zSmO x1 := by rw [he1]; exact zCh_ok ha wo k x (who + 1) tf gi n m (by omega) hx (zChO_s ho)
  by_cases hwo : ((who : Nat) : Int) = wo
  · skip
    refine z_iconst C (nI 0) dX3_choose_89 (by decide) ?_
    refine z_istore C dX3_choose_90 (by decide) [(7, .int (nI 0)), (0, .ref (q 0)), (1, .int (nI who)), (2, .int (iZ wo)), (3, .int (nI tf)), (4, .int (iZ gi)), (5, .int (nI n)), (6, .int (nI m))] rfl ?_
    refine z_iload C dX3_choose_92 0 rfl ?_
    refine z_aload_n C dX3_choose_94 1 rfl ?_
    refine z_get C inX3_choose_X3 0 wS_o rfl 2 (by decide) (C.w 5 rfl) rfl dX3_choose_95 ?_
    refine z_alenR C 3 wS_bi dX3_choose_98 ?_
    refine z_icmp_ge C 188 dX3_choose_99 (by decide) (zle_NN (by omega) (by omega)) (fun c_99 => ?_) (fun c_99 => ?_)
    · skip
      exact z_vretP C dX3_choose_188 (by rw [zCh_s, if_pos hwo, he1])
    · skip
      refine z_iload_n C dX3_choose_102 2 rfl ?_
      refine z_iload_n C dX3_choose_103 3 rfl ?_
      refine z_icmp_eq C 188 dX3_choose_104 (by decide) (zeq_ZZ (x := ((who : Nat) : Int)) (y := wo) (by unfold zB31; omega) (by unfold zB31; omega)) (fun c_104 => ?_) (fun h9 => absurd hwo h9)
      exact z_vretP C dX3_choose_188 (by rw [zCh_s, if_pos hwo, he1])
  · skip
    refine z_iconst C (nI 0) dX3_choose_89 (by decide) ?_
    refine z_istore C dX3_choose_90 (by decide) [(7, .int (nI 0)), (0, .ref (q 0)), (1, .int (nI who)), (2, .int (iZ wo)), (3, .int (nI tf)), (4, .int (iZ gi)), (5, .int (nI n)), (6, .int (nI m))] rfl ?_
    refine zW.pick (lv' := [(0, .ref (q 0)), (1, .int (nI who)), (2, .int (iZ wo)), (3, .int (nI tf)), (4, .int (iZ gi)), (5, .int (nI n)), (6, .int (nI m)), (7, .int (nI 0))]) [1, 2, 3, 4, 5, 6, 7, 0] rfl ?_
    have hlp92 : ∀ (kk i : Nat), i + kk = zNb a → zW g l ({ frames := (k + 1) + 3, cells := 0, slots := 0, locals := 27 * (k + 1) + 65 }) E (zMQ g E (zPv (wS g q a (zCh a wo (k + 1) x who tf gi n m))) 0 0) 8 0 0 (wS g q a (zChf (zChF a wo k who tf gi n m) i x1)) [(0, .ref (q 0)), (1, .int (nI who)), (2, .int (iZ wo)), (3, .int (nI tf)), (4, .int (iZ gi)), (5, .int (nI n)), (6, .int (nI m)), (7, .int (nI i))] [] 92 := by
      intro kk
      induction kk with
      | zero =>
        intro i hik
        refine z_iload C dX3_choose_92 7 rfl ?_
        refine z_aload_n C dX3_choose_94 0 rfl ?_
        refine z_get C inX3_choose_X3 0 wS_o rfl 2 (by decide) (C.w 5 rfl) rfl dX3_choose_95 ?_
        refine z_alenR C 3 wS_bi dX3_choose_98 ?_
        refine z_icmp_ge C 188 dX3_choose_99 (by decide) (zle_NN (by omega) (by omega)) (fun c_99 => ?_) (fun h9 => absurd (by omega) h9)
        exact z_vretP C dX3_choose_188 (by rw [zCh_s, if_neg hwo, he1, show i = zNb a by omega])
      | succ kk ih92 =>
        intro i hik
        have hxi : zSmO (zChf (zChF a wo k who tf gi n m) i x1) := zChF_ok ha (zCh_ok ha wo k) hk ho hx9 i (by omega)
        refine z_iload C dX3_choose_92 7 rfl ?_
        refine z_aload_n C dX3_choose_94 0 rfl ?_
        refine z_get C inX3_choose_X3 0 wS_o rfl 2 (by decide) (C.w 5 rfl) rfl dX3_choose_95 ?_
        refine z_alenR C 3 wS_bi dX3_choose_98 ?_
        refine z_icmp_ge C 188 dX3_choose_99 (by decide) (zle_NN (by omega) (by omega)) (fun h9 => absurd h9 (by omega)) (fun c_99 => ?_)
        refine z_iload_n C dX3_choose_102 1 rfl ?_
        refine z_iload_n C dX3_choose_103 2 rfl ?_
        refine z_icmp_eq C 188 dX3_choose_104 (by decide) (zeq_ZZ (x := ((who : Nat) : Int)) (y := wo) (by unfold zB31; omega) (by unfold zB31; omega)) (fun h9 => absurd h9 hwo) (fun c_104 => ?_)
        refine z_aload_n C dX3_choose_107 0 rfl ?_
        refine z_get C inX3_choose_X3 0 wS_o rfl 2 (by decide) (C.w 5 rfl) rfl dX3_choose_108 ?_
        refine z_iload C dX3_choose_111 7 rfl ?_
        refine z_aald C 3 wS_bi (by omega) (by omega) dX3_choose_113 (zPt_at (by omega)) ?_
        refine z_iconst C (nI 0) dX3_choose_114 (by decide) ?_
        refine z_ialdN C (4 + i) (wS_row (b := i) (by omega)) (by omega) (by decide) dX3_choose_115 (v := nI (zOw a i)) rfl ?_
        have f_115b := ha.ow (b := i) (by omega)
        refine z_iload_n C dX3_choose_116 1 rfl ?_
        refine z_icmp_ne C 182 dX3_choose_117 (by decide) (zeq_NN (by omega) (by omega)) (fun c_117 => ?_) (fun c_117 => ?_)
        · skip
          refine z_iinc C dX3_choose_182 7 (nI (i + 1)) rfl (nI_add i 1) (by decide) [(7, .int (nI (i + 1))), (0, .ref (q 0)), (1, .int (nI who)), (2, .int (iZ wo)), (3, .int (nI tf)), (4, .int (iZ gi)), (5, .int (nI n)), (6, .int (nI m))] rfl ?_
          refine z_goto C 92 dX3_choose_185 (by decide) ?_
          refine zW.pick (lv' := [(0, .ref (q 0)), (1, .int (nI who)), (2, .int (iZ wo)), (3, .int (nI tf)), (4, .int (iZ gi)), (5, .int (nI n)), (6, .int (nI m)), (7, .int (nI (i + 1)))]) [1, 2, 3, 4, 5, 6, 7, 0] rfl ?_
          refine zW.eqw (ws2 := wS g q a (zChf (zChF a wo k who tf gi n m) (i + 1) x1)) (by rw [zChf_n (by simp_all)]) ?_
          exact ih92 (i + 1) (by omega)
        · skip
          refine z_aload_n C dX3_choose_120 0 rfl ?_
          refine z_iload C dX3_choose_121 7 rfl ?_
          refine z_callV C (c_X3_counts l g q a (zChf (zChF a wo k who tf gi n m) i x1) ha i (by omega)) (cwV 1 C.ts gX3_choose_X3_counts rfl rfl rfl (by decide +kernel) ⟨by dsimp only; omega, by dsimp only; omega⟩) wS_o rfl rfl rfl (Nat.le_of_ble_eq_true rfl) dX3_choose_123 ⟨Nat.zero_le _, Nat.zero_le _⟩ (z_i ?_)
          refine z_if_eq C 182 dX3_choose_126 (by decide) (zeq_B0 _) (fun c_126 => ?_) (fun c_126 => ?_)
          · skip
            refine z_iinc C dX3_choose_182 7 (nI (i + 1)) rfl (nI_add i 1) (by decide) [(7, .int (nI (i + 1))), (0, .ref (q 0)), (1, .int (nI who)), (2, .int (iZ wo)), (3, .int (nI tf)), (4, .int (iZ gi)), (5, .int (nI n)), (6, .int (nI m))] rfl ?_
            refine z_goto C 92 dX3_choose_185 (by decide) ?_
            refine zW.pick (lv' := [(0, .ref (q 0)), (1, .int (nI who)), (2, .int (iZ wo)), (3, .int (nI tf)), (4, .int (iZ gi)), (5, .int (nI n)), (6, .int (nI m)), (7, .int (nI (i + 1)))]) [1, 2, 3, 4, 5, 6, 7, 0] rfl ?_
            refine zW.eqw (ws2 := wS g q a (zChf (zChF a wo k who tf gi n m) (i + 1) x1)) (by rw [zChf_n (by simp_all)]) ?_
            exact ih92 (i + 1) (by omega)
          · skip
            refine z_aload_n C dX3_choose_129 0 rfl ?_
            refine z_get C inX3_choose_X3 0 wS_o rfl 2 (by decide) (C.w 5 rfl) rfl dX3_choose_130 ?_
            refine z_iload C dX3_choose_133 7 rfl ?_
            refine z_aald C 3 wS_bi (by omega) (by omega) dX3_choose_135 (zPt_at (by omega)) ?_
            refine z_iconst C (nI 1) dX3_choose_136 (by decide) ?_
            refine z_ialdN C (4 + i) (wS_row (b := i) (by omega)) (by omega) (by decide) dX3_choose_137 (v := nI (zBu a i)) rfl ?_
            have f_137b := ha.bu8 (b := i) (by omega)
            refine z_iload_n C dX3_choose_138 3 rfl ?_
            refine z_iand C dX3_choose_139 (v := nI ((zBu a i) &&& tf)) (zand_NN (zBu a i) tf) ?_
            refine z_if_ne C 182 dX3_choose_140 (by decide) (zeq_N0 (by have : zBu a i &&& tf ≤ zBu a i := Nat.and_le_left; have := ha.bu8 (b := i) (by omega); omega)) (fun c_140 => ?_) (fun c_140 => ?_)
            · skip
              refine z_iinc C dX3_choose_182 7 (nI (i + 1)) rfl (nI_add i 1) (by decide) [(7, .int (nI (i + 1))), (0, .ref (q 0)), (1, .int (nI who)), (2, .int (iZ wo)), (3, .int (nI tf)), (4, .int (iZ gi)), (5, .int (nI n)), (6, .int (nI m))] rfl ?_
              refine z_goto C 92 dX3_choose_185 (by decide) ?_
              refine zW.pick (lv' := [(0, .ref (q 0)), (1, .int (nI who)), (2, .int (iZ wo)), (3, .int (nI tf)), (4, .int (iZ gi)), (5, .int (nI n)), (6, .int (nI m)), (7, .int (nI (i + 1)))]) [1, 2, 3, 4, 5, 6, 7, 0] rfl ?_
              refine zW.eqw (ws2 := wS g q a (zChf (zChF a wo k who tf gi n m) (i + 1) x1)) (by rw [zChf_n (by simp_all)]) ?_
              exact ih92 (i + 1) (by omega)
            · skip
              refine z_aload_n C dX3_choose_143 0 rfl ?_
              refine z_iload_n C dX3_choose_144 1 rfl ?_
              refine z_iconst C (nI 1) dX3_choose_145 (by decide) ?_
              refine z_iadd C dX3_choose_146 (v := nI (who + 1)) (nI_add who 1) ?_
              refine z_iload_n C dX3_choose_147 2 rfl ?_
              refine z_iload_n C dX3_choose_148 3 rfl ?_
              refine z_aload_n C dX3_choose_149 0 rfl ?_
              refine z_get C inX3_choose_X3 0 wS_o rfl 2 (by decide) (C.w 5 rfl) rfl dX3_choose_150 ?_
              refine z_iload C dX3_choose_153 7 rfl ?_
              refine z_aald C 3 wS_bi (by omega) (by omega) dX3_choose_155 (zPt_at (by omega)) ?_
              refine z_iconst C (nI 1) dX3_choose_156 (by decide) ?_
              refine z_ialdN C (4 + i) (wS_row (b := i) (by omega)) (by omega) (by decide) dX3_choose_157 (v := nI (zBu a i)) rfl ?_
              have f_157b := ha.bu8 (b := i) (by omega)
              refine z_ior C dX3_choose_158 (v := nI (tf ||| (zBu a i))) (zor_NN tf (zBu a i)) ?_
              refine z_iload C dX3_choose_159 4 rfl ?_
              refine z_aload_n C dX3_choose_161 0 rfl ?_
              refine z_iload C dX3_choose_162 7 rfl ?_
              refine z_callV C (c_X3_gain l g q a (zChf (zChF a wo k who tf gi n m) i x1) ha i (by omega)) (cwV 1 C.ts gX3_choose_X3_gain rfl rfl rfl (by decide +kernel) ⟨by dsimp only; omega, by dsimp only; omega⟩) wS_o rfl rfl rfl (Nat.le_of_ble_eq_true rfl) dX3_choose_164 ⟨Nat.zero_le _, Nat.zero_le _⟩ (z_i ?_)
              refine z_iadd C dX3_choose_167 (v := iZ (gi + (zGn a i))) (iZ_add gi (zGn a i)) ?_
              refine z_iload C dX3_choose_168 5 rfl ?_
              refine z_iconst C (nI 1) dX3_choose_170 (by decide) ?_
              refine z_iadd C dX3_choose_171 (v := nI (n + 1)) (nI_add n 1) ?_
              refine z_iload C dX3_choose_172 6 rfl ?_
              refine z_iconst C (nI 1) dX3_choose_174 (by decide) ?_
              refine z_iload C dX3_choose_175 7 rfl ?_
              refine z_ishl C dX3_choose_177 (v := nI (2 ^ i)) (zshl_1N (by omega)) ?_
              refine z_iadd C dX3_choose_178 (v := nI (m + (2 ^ i))) (nI_add m (2 ^ i)) ?_
              refine z_callV C (hC (zChf (zChF a wo k who tf gi n m) i x1) (who + 1) (tf ||| zBu a i) (gi + zGn a i) (n + 1) (m + 2 ^ i) (by omega) hxi (zChO_n ha ho (by omega) (by simpa using c_126))) (cwV 6 C.ts gX3_choose_X3_choose rfl rfl rfl (by decide +kernel) ⟨by dsimp only; omega, by dsimp only; omega⟩) wS_o rfl rfl rfl (Nat.le_of_ble_eq_true rfl) dX3_choose_179 ⟨Nat.zero_le _, Nat.zero_le _⟩ (z_v ?_)
              refine z_iinc C dX3_choose_182 7 (nI (i + 1)) rfl (nI_add i 1) (by decide) [(7, .int (nI (i + 1))), (0, .ref (q 0)), (1, .int (nI who)), (2, .int (iZ wo)), (3, .int (nI tf)), (4, .int (iZ gi)), (5, .int (nI n)), (6, .int (nI m))] rfl ?_
              refine z_goto C 92 dX3_choose_185 (by decide) ?_
              refine zW.pick (lv' := [(0, .ref (q 0)), (1, .int (nI who)), (2, .int (iZ wo)), (3, .int (nI tf)), (4, .int (iZ gi)), (5, .int (nI n)), (6, .int (nI m)), (7, .int (nI (i + 1)))]) [1, 2, 3, 4, 5, 6, 7, 0] rfl ?_
              refine zW.eqw (ws2 := wS g q a (zChf (zChF a wo k who tf gi n m) (i + 1) x1)) (by rw [zChf_y ⟨c_117, by simpa using c_126, c_140⟩]) ?_
              exact ih92 (i + 1) (by omega)
    exact hlp92 (zNb a) 0 (by omega)
theorem zChM_all (l : Launch) (g : zG) (q : Nat → Nat) (a : zS) (ha : zOk a) (wo : Int) (hwo9 : -1 ≤ wo ∧ wo < 5) : ∀ k, zChM l g q a wo k := by
  intro k
  induction k with
  | zero => exact fun x who tf gi n m hk hx ho => c_X3_choose_0 l g q a x ha wo hwo9 who tf gi n m hk hx ho
  | succ k ih => exact fun x who tf gi n m hk hx ho => c_X3_choose_s l g q a x ha wo hwo9 who tf gi n m k hk hx ho ih
theorem inX3_sale_X3 : ∀ w ∈ wsX30, w ∈ wsX3_sale := fun w h => List.mem_cons_of_mem _ (List.mem_append_right _ (h))
set_option maxRecDepth 100000 in
set_option maxHeartbeats 4000000 in
theorem c_X3_sale (l : Launch) (g : zG) (q : Nat → Nat) (a : zS) (sm : Int × Nat × Nat) (ha : zOk a) (wo : Int) (hwo9 : -1 ≤ wo ∧ wo < 5) (y : Int × Nat) (hy : zCh a wo (zNd a) (0, 0, 0) 0 0 0 0 0 = zT3 y) : zM g l yX3_sale wsX3_sale { frames := 9, cells := 0, slots := 0, locals := 227 } [.ref (q 0), .int (iZ wo)] (wS g q a sm) (zPi (nI y.2) (wS g q a (zT3 y))) 0 0 := by
  refine zM.of (cc := cX3_sale) (nL := 2) (ret := (some .int)) (lv := [(0, .ref (q 0)), (1, .int (iZ wo))]) (by decide) rfl (Nat.le_of_ble_eq_true rfl) rfl ?_
  intro E C0 hi
  have C : zC g E cX3_sale RX3 wsX3_sale 2 (some .int) := C0
  obtain ⟨hnf, hnd, hnb, hou, hrs, hbd⟩ := id ha
  refine z_aload_n C dX3_sale_0 0 rfl ?_
  refine z_iconst C (nI 0) dX3_sale_1 (by decide) ?_
  refine z_put C inX3_sale_X3 tyX3_ok nmX3 0 wS_o rfl 3 (by decide) (C.w 1 rfl) rfl (tyX3_ok 3 (by decide)) rfl rfl (Nat.le_of_ble_eq_true rfl) dX3_sale_2 (wS_set_sum (sm := sm) 0) ?_
  refine z_aload_n C dX3_sale_5 0 rfl ?_
  refine z_iconst C (nI 0) dX3_sale_6 (by decide) ?_
  refine z_put C inX3_sale_X3 tyX3_ok nmX3 0 wS_o rfl 4 (by decide) (C.w 2 rfl) rfl (tyX3_ok 4 (by decide)) rfl rfl (Nat.le_of_ble_eq_true rfl) dX3_sale_7 (wS_set_many (sm := (0, sm.2.1, sm.2.2)) 0) ?_
  refine z_aload_n C dX3_sale_10 0 rfl ?_
  refine z_iconst C (nI 0) dX3_sale_11 (by decide) ?_
  refine z_put C inX3_sale_X3 tyX3_ok nmX3 0 wS_o rfl 5 (by decide) (C.w 3 rfl) rfl (tyX3_ok 5 (by decide)) rfl rfl (Nat.le_of_ble_eq_true rfl) dX3_sale_12 (wS_set_set (sm := (0, 0, sm.2.2)) 0) ?_
  refine z_aload_n C dX3_sale_15 0 rfl ?_
  refine z_iconst C (nI 0) dX3_sale_16 (by decide) ?_
  refine z_iload_n C dX3_sale_17 1 rfl ?_
  refine z_iconst C (nI 0) dX3_sale_18 (by decide) ?_
  refine z_iconst C (nI 0) dX3_sale_19 (by decide) ?_
  refine z_iconst C (nI 0) dX3_sale_20 (by decide) ?_
  refine z_iconst C (nI 0) dX3_sale_21 (by decide) ?_
  refine z_callV C (zChM_all l g q a ha wo hwo9 (zNd a) (0, 0, 0) 0 0 0 0 0 (by omega) ⟨by decide, by decide, by decide, by decide⟩ ⟨by decide, by decide, by decide, by decide⟩) (cwV 6 C.ts gX3_sale_X3_choose rfl rfl rfl (by decide +kernel) ⟨by dsimp only; omega, by dsimp only; omega⟩) wS_o rfl rfl rfl (Nat.le_of_ble_eq_true rfl) dX3_sale_22 ⟨Nat.zero_le _, Nat.zero_le _⟩ (z_v ?_)
  rw [hy]
  refine z_aload_n C dX3_sale_25 0 rfl ?_
  refine z_get C inX3_sale_X3 0 wS_o rfl 5 (by decide) (C.w 3 rfl) rfl dX3_sale_26 ?_
  exact z_iretP C dX3_sale_29 rfl rfl
