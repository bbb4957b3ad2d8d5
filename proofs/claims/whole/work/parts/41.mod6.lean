theorem wM_set_ou2 {g : zG} {q : Nat → Nat} {th : Int} {a : zS} {la : Nat → Int} {pe : Nat → Nat} {ga : Nat → Int} {sz : Nat → Nat} (o n : Nat) : (wM g q th (zSetOu a o) la pe ga sz).set 0 (q 0, .inr (3, [Value.int (iZ th), .int (nI (zNf a)), .int (nI (zNd a)), .int (nI (zNb a)), .int (nI o), .ref (q 1), .ref (q 2), .ref (q 3), .ref (q 4), .ref (q 5), .ref (q 6)].set 4 (.int (nI n)))) = wM g q th (zSetOu a n) la pe ga sz := rfl
theorem inX3_least_X3 : ∀ w ∈ wsX30, w ∈ wsX3_least := fun w h => List.mem_cons_of_mem _ (List.mem_append_right _ (h))
set_option maxRecDepth 100000 in
set_option maxHeartbeats 4000000 in
theorem c_X3_least (l : Launch) (g : zG) (q : Nat → Nat) (th : Int) (a : zS) (la : Nat → Int) (pe : Nat → Nat) (ga : Nat → Int) (sz : Nat → Nat) (ha : zOk a) (h0 : zM0 la pe) (hi9 : zInv a) (b : Nat) (hb : b < zNb a) : zM g l yX3_least wsX3_least { frames := 9, cells := 0, slots := 0, locals := 207 } [.ref (q 0), .int (nI b)] (wM g q th a la pe ga sz) (zPie (iZ (aLeast a b)) (zMw g q 0 a)) 0 0 := by
  refine zM.of (cc := cX3_least) (nL := 5) (ret := (some .int)) (lv := [(0, .ref (q 0)), (1, .int (nI b))]) (by decide) rfl (Nat.le_of_ble_eq_true rfl) rfl ?_
  intro E C0 hi
  have C : zC g E cX3_least RX3 wsX3_least 5 (some .int) := C0
  obtain ⟨hnf, hnd, hnb, hou, hrs, hbd⟩ := id ha
  have hall : ∀ x, x ≤ 999 → zOk (zSetPr a b x) := fun x hx => (zInv_setPr (b := b) hi9 hx).1
  refine z_aload_n C dX3_least_0 0 rfl ?_
  refine z_iconst C (nI 0) dX3_least_1 (by decide) ?_
  refine z_put C inX3_least_X3 tyX3_ok nmX3 0 wM_o rfl 0 (by decide) (C.w 1 rfl) rfl (tyX3_ok 0 (by decide)) rfl rfl (Nat.le_of_ble_eq_true rfl) dX3_least_2 (wM_set_th 0) ?_
  refine z_aload_n C dX3_least_5 0 rfl ?_
  refine z_iload_n C dX3_least_6 1 rfl ?_
  refine z_callV C (c_X3_isBid_ok l g q 0 a la pe ga sz ha b (by omega)) (cwV 1 C.ts gX3_least_X3_isBid rfl rfl rfl (by decide +kernel) ⟨Nat.le_of_ble_eq_true rfl, Nat.le_of_ble_eq_true rfl⟩) wM_o rfl rfl rfl (Nat.le_of_ble_eq_true rfl) dX3_least_7 ⟨Nat.zero_le _, Nat.zero_le _⟩ (z_i ?_)
  refine z_if_ne C 19 dX3_least_10 (by decide) (zeq_B0 _) (fun c_10 => ?_) (fun h9 => absurd h9 (by decide))
  refine z_aload_n C dX3_least_19 0 rfl ?_
  refine z_iload_n C dX3_least_20 1 rfl ?_
  refine z_sipush C (nI 999) dX3_least_21 (by decide) ?_
  refine z_iconst C (nI 0) dX3_least_24 (by decide) ?_
  refine z_callV C (c_X3_tried_0 l g q 0 a la pe ga sz ha h0 b 999 (by omega) (hall _ (by omega))) (cwV 3 C.ts gX3_least_X3_tried rfl rfl rfl (by decide +kernel) ⟨Nat.le_of_ble_eq_true rfl, Nat.le_of_ble_eq_true rfl⟩) wM_o rfl rfl rfl (Nat.le_of_ble_eq_true rfl) dX3_least_25 ⟨Nat.zero_le _, Nat.zero_le _⟩ (z_ie ?_)
  rintro _ ⟨la25, pe25, ga25, sz25, rfl, hz25⟩
  refine z_if_ne C 33 dX3_least_28 (by decide) (zeq_B0 _) (fun c_28 => ?_) (fun c_28 => ?_)
  · skip
    refine z_iconst C (iZ (-1)) dX3_least_33 (by decide) ?_
    refine z_istore_n C dX3_least_34 (by decide) [(2, .int (iZ (-1))), (0, .ref (q 0)), (1, .int (nI b))] rfl ?_
    refine z_sipush C (nI 999) dX3_least_35 (by decide) ?_
    refine z_istore_n C dX3_least_38 (by decide) [(3, .int (nI 999)), (2, .int (iZ (-1))), (0, .ref (q 0)), (1, .int (nI b))] rfl ?_
    refine zW.pick (lv' := [(0, .ref (q 0)), (1, .int (nI b)), (2, .int (iZ (-1))), (3, .int (nI 999))]) [2, 3, 1, 0] rfl ?_
    have hfl39 : ∀ (k : Nat) (lo : Nat) (hi1 : Nat) (la1 : Nat → Int) (pe1 : Nat → Nat) (ga1 : Nat → Int) (sz1 : Nat → Nat), hi1 - lo ≤ k → (zM0 la1 pe1) → (lo ≤ hi1 ∧ hi1 ≤ 999) → (aWins a b hi1 = true) → (∀ p, p < lo → aWins a b p = false) → zW g l ({ frames := 9, cells := 0, slots := 0, locals := 207 }) E (zMQ g E (zPie (iZ (aLeast a b)) (zMw g q 0 a)) 0 0) 5 0 0 (wM g q 0 a la1 pe1 ga1 sz1) [(0, .ref (q 0)), (1, .int (nI b)), (2, .int (iZ (((lo : Nat) : Int) - 1))), (3, .int (nI hi1))] [] 39 := by
      intro k
      induction k with
      | zero =>
        intro lo hi1 la1 pe1 ga1 sz1 hme hz1 hle hwi hlo
        refine z_iload_n C dX3_least_39 3 rfl ?_
        refine z_iload_n C dX3_least_40 2 rfl ?_
        refine z_isub C dX3_least_41 (v := iZ (((hi1 : Nat) : Int) - (((lo : Nat) : Int) - 1))) (iZ_sub ((hi1 : Nat) : Int) (((lo : Nat) : Int) - 1)) ?_
        refine z_iconst C (nI 1) dX3_least_42 (by decide) ?_
        refine z_icmp_le C 79 dX3_least_43 (by decide) (zle_ZZ (x := (((hi1 : Nat) : Int) - (((lo : Nat) : Int) - 1))) (y := 1) (by unfold zB31; omega) (by unfold zB31; omega)) (fun c_43 => ?_) (fun h9 => absurd (by omega) h9)
        refine z_iload_n C dX3_least_79 3 rfl ?_
        exact z_iretE C dX3_least_80 (by rw [aLeast_eq hi9 hb hle.2 hwi (fun p hp => hlo p (by omega))]; rfl) ⟨_, _, _, _, rfl, hz1⟩
      | succ k ih39 =>
        intro lo hi1 la1 pe1 ga1 sz1 hme hz1 hle hwi hlo
        refine z_iload_n C dX3_least_39 3 rfl ?_
        refine z_iload_n C dX3_least_40 2 rfl ?_
        refine z_isub C dX3_least_41 (v := iZ (((hi1 : Nat) : Int) - (((lo : Nat) : Int) - 1))) (iZ_sub ((hi1 : Nat) : Int) (((lo : Nat) : Int) - 1)) ?_
        refine z_iconst C (nI 1) dX3_least_42 (by decide) ?_
        refine z_icmp_le C 79 dX3_least_43 (by decide) (zle_ZZ (x := (((hi1 : Nat) : Int) - (((lo : Nat) : Int) - 1))) (y := 1) (by unfold zB31; omega) (by unfold zB31; omega)) (fun c_43 => ?_) (fun c_43 => ?_)
        · skip
          refine z_iload_n C dX3_least_79 3 rfl ?_
          exact z_iretE C dX3_least_80 (by rw [aLeast_eq hi9 hb hle.2 hwi (fun p hp => hlo p (by omega))]; rfl) ⟨_, _, _, _, rfl, hz1⟩
        · skip
          refine z_iload_n C dX3_least_46 2 rfl ?_
          refine z_iload_n C dX3_least_47 3 rfl ?_
          refine z_iadd C dX3_least_48 (v := iZ ((((lo : Nat) : Int) - 1) + ((hi1 : Nat) : Int))) (iZ_add (((lo : Nat) : Int) - 1) ((hi1 : Nat) : Int)) ?_
          refine z_iconst C (nI 1) dX3_least_49 (by decide) ?_
          refine z_iadd C dX3_least_50 (v := nI (lo + hi1)) ((iZ_add _ 1).trans (congrArg iZ (show _ = (((lo + hi1 : Nat)) : Int) by omega))) ?_
          refine z_iconst C (nI 2) dX3_least_51 (by decide) ?_
          refine z_idiv C dX3_least_52 (by decide) (v := nI ((lo + hi1) / 2)) (pk_div (by omega) (by decide) (by decide)) ?_
          refine z_istore C dX3_least_53 (by decide) [(4, .int (nI ((lo + hi1) / 2))), (0, .ref (q 0)), (1, .int (nI b)), (2, .int (iZ (((lo : Nat) : Int) - 1))), (3, .int (nI hi1))] rfl ?_
          refine z_aload_n C dX3_least_55 1 rfl ?_
          refine z_iload_n C dX3_least_56 2 rfl ?_
          refine z_iload C dX3_least_57 0 rfl ?_
          refine z_iconst C (nI 0) dX3_least_59 (by decide) ?_
          refine z_callV C (c_X3_tried_0 l g q 0 a la1 pe1 ga1 sz1 ha hz1 b ((lo + hi1) / 2) (by omega) (hall _ (by omega))) (cwV 3 C.ts gX3_least_X3_tried rfl rfl rfl (by decide +kernel) ⟨Nat.le_of_ble_eq_true rfl, Nat.le_of_ble_eq_true rfl⟩) wM_o rfl rfl rfl (Nat.le_of_ble_eq_true rfl) dX3_least_60 ⟨Nat.zero_le _, Nat.zero_le _⟩ (z_ie ?_)
          rintro _ ⟨la60, pe60, ga60, sz60, rfl, hz60⟩
          refine z_iconst C (nI 1) dX3_least_63 (by decide) ?_
          refine z_icmp_ne C 73 dX3_least_64 (by decide) (zeq_B1 _) (fun c_64 => ?_) (fun c_64 => ?_)
          · skip
            refine z_iload C dX3_least_73 0 rfl ?_
            refine z_istore_n C dX3_least_75 (by decide) [(2, .int (nI ((lo + hi1) / 2))), (4, .int (nI ((lo + hi1) / 2))), (0, .ref (q 0)), (1, .int (nI b)), (3, .int (nI hi1))] rfl ?_
            refine z_goto C 39 dX3_least_76 (by decide) ?_
            refine zW.pick (lv' := [(0, .ref (q 0)), (1, .int (nI b)), (2, .int (nI ((lo + hi1) / 2))), (3, .int (nI hi1))]) [2, 3, 0, 4] rfl ?_
            refine zW.lve (lv' := [(0, .ref (q 0)), (1, .int (nI b)), (2, .int (iZ ((((lo + hi1) / 2 + 1 : Nat) : Int) - 1))), (3, .int (nI hi1))]) (by first | rfl | (rw [show ((((lo + hi1) / 2 + 1 : Nat) : Int)) - 1 = (((lo + hi1) / 2 : Nat) : Int) by omega]; rfl)) ?_
            exact ih39 ((lo + hi1) / 2 + 1) hi1 la60 pe60 ga60 sz60 (by omega) hz60 (by omega) hwi (fun p hp => (Nat.lt_or_ge p ((lo + hi1) / 2)).elim (fun e => eq_false_of_ne_true (fun h9 => c_64 (aWins_mono hi9 hb h9 _ (by omega) (by omega)))) (fun e => by rw [show p = (lo + hi1) / 2 by omega]; exact eq_false_of_ne_true c_64))
          · skip
            refine z_iload C dX3_least_67 0 rfl ?_
            refine z_istore_n C dX3_least_69 (by decide) [(3, .int (nI ((lo + hi1) / 2))), (4, .int (nI ((lo + hi1) / 2))), (0, .ref (q 0)), (1, .int (nI b)), (2, .int (iZ (((lo : Nat) : Int) - 1)))] rfl ?_
            refine z_goto C 76 dX3_least_70 (by decide) ?_
            refine z_goto C 39 dX3_least_76 (by decide) ?_
            refine zW.pick (lv' := [(0, .ref (q 0)), (1, .int (nI b)), (2, .int (iZ (((lo : Nat) : Int) - 1))), (3, .int (nI ((lo + hi1) / 2)))]) [2, 3, 4, 0] rfl ?_
            exact ih39 lo ((lo + hi1) / 2) la60 pe60 ga60 sz60 (by omega) hz60 (by omega) c_64 hlo
    refine zW.lve (lv' := [(0, .ref (q 0)), (1, .int (nI b)), (2, .int (iZ (((0 : Nat) : Int) - 1))), (3, .int (nI 999))]) (rfl) ?_
    exact hfl39 999 0 999 la25 pe25 ga25 sz25 (by omega) hz25 (⟨by decide, by decide⟩) (by simpa using c_28) (fun p hp => absurd hp (Nat.not_lt_zero p))
  · skip
    refine z_iconst C (iZ (-1)) dX3_least_31 (by decide) ?_
    exact z_iretE C dX3_least_32 (by rw [aLeast_no hi9 hb (by simpa using c_28)]) ⟨_, _, _, _, rfl, hz25⟩
theorem inX3_rival_X3 : ∀ w ∈ wsX30, w ∈ wsX3_rival := fun w h => List.mem_cons_of_mem _ (List.mem_append_right _ (h))
set_option maxRecDepth 100000 in
set_option maxHeartbeats 4000000 in
theorem c_X3_rival (l : Launch) (g : zG) (q : Nat → Nat) (th : Int) (a : zS) (la : Nat → Int) (pe : Nat → Nat) (ga : Nat → Int) (sz : Nat → Nat) (ha : zOk a) (h0 : zM0 la pe)  : zM g l yX3_rival wsX3_rival { frames := 8, cells := 0, slots := 0, locals := 182 } [.ref (q 0)] (wM g q th a la pe ga sz) (zPie (iZ ((zRv a (zNd a)).1)) (zMw g q 0 a)) 0 0 := by
  refine zM.of (cc := cX3_rival) (nL := 6) (ret := (some .int)) (lv := [(0, .ref (q 0))]) (by decide) rfl (Nat.le_of_ble_eq_true rfl) rfl ?_
  intro E C0 hi
  have C : zC g E cX3_rival RX3 wsX3_rival 6 (some .int) := C0
  obtain ⟨hnf, hnd, hnb, hou, hrs, hbd⟩ := id ha
  refine z_aload_n C dX3_rival_0 0 rfl ?_
  refine z_iconst C (nI 0) dX3_rival_1 (by decide) ?_
  refine z_put C inX3_rival_X3 tyX3_ok nmX3 0 wM_o rfl 0 (by decide) (C.w 1 rfl) rfl (tyX3_ok 0 (by decide)) rfl rfl (Nat.le_of_ble_eq_true rfl) dX3_rival_2 (wM_set_th 0) ?_
  refine z_iconst C (iZ (-1)) dX3_rival_5 (by decide) ?_
  refine z_istore_n C dX3_rival_6 (by decide) [(1, .int (iZ (-1))), (0, .ref (q 0))] rfl ?_
  refine z_iconst C (iZ (-1)) dX3_rival_7 (by decide) ?_
  refine z_istore_n C dX3_rival_8 (by decide) [(2, .int (iZ (-1))), (1, .int (iZ (-1))), (0, .ref (q 0))] rfl ?_
  refine z_aload_n C dX3_rival_9 2 rfl ?_
  refine z_get C inX3_rival_X3 0 wM_o rfl 4 (by decide) (C.w 2 rfl) rfl dX3_rival_10 ?_
  refine z_istore_n C dX3_rival_13 (by decide) [(3, .int (nI (zOu a))), (2, .int (iZ (-1))), (1, .int (iZ (-1))), (0, .ref (q 0))] rfl ?_
  refine z_iconst C (nI 0) dX3_rival_14 (by decide) ?_
  refine z_istore C dX3_rival_15 (by decide) [(4, .int (nI 0)), (3, .int (nI (zOu a))), (2, .int (iZ (-1))), (1, .int (iZ (-1))), (0, .ref (q 0))] rfl ?_
  refine zW.pick (lv' := [(0, .ref (q 0)), (1, .int (iZ (-1))), (2, .int (iZ (-1))), (3, .int (nI (zOu a))), (4, .int (nI 0))]) [4, 3, 2, 1, 0] rfl ?_
  have hlp17 : ∀ (k d : Nat) (o : Nat) (la1 : Nat → Int) (pe1 : Nat → Nat) (ga1 : Nat → Int) (sz1 : Nat → Nat), d + k = zNd a → (zM0 la1 pe1) → zW g l ({ frames := 8, cells := 0, slots := 0, locals := 182 }) E (zMQ g E (zPie (iZ ((zRv a (zNd a)).1)) (zMw g q 0 a)) 0 0) 6 0 0 (wM g q 0 (zSetOu a o) la1 pe1 ga1 sz1) [(0, .ref (q 0)), (1, .int (iZ ((zRv a d).1))), (2, .int (iZ ((zRv a d).2))), (3, .int (nI (zOu a))), (4, .int (nI d))] [] 17 := by
    intro k
    induction k with
    | zero =>
      intro d o la1 pe1 ga1 sz1 hdk hz1
      have hnd2 : zNd (zSetOu a o) = zNd a := rfl
      refine z_iload C dX3_rival_17 4 rfl ?_
      refine z_aload_n C dX3_rival_19 0 rfl ?_
      refine z_get C inX3_rival_X3 0 wM_o rfl 2 (by decide) (C.w 3 rfl) rfl dX3_rival_20 ?_
      refine z_icmp_ge C 63 dX3_rival_23 (by decide) (zle_NN (by omega) (by omega)) (fun c_23 => ?_) (fun h9 => absurd (by omega) h9)
      refine z_aload_n C dX3_rival_63 0 rfl ?_
      refine z_iload_n C dX3_rival_64 3 rfl ?_
      refine z_put C inX3_rival_X3 tyX3_ok nmX3 0 wM_o rfl 4 (by decide) (C.w 2 rfl) rfl (tyX3_ok 4 (by decide)) rfl rfl (Nat.le_of_ble_eq_true rfl) dX3_rival_65 (wM_set_ou2 o (zOu a)) ?_
      refine z_iload_n C dX3_rival_68 1 rfl ?_
      exact z_iretE C dX3_rival_69 (by rw [show d = zNd a by omega]) ⟨_, _, _, _, rfl, hz1⟩
    | succ k ih17 =>
      intro d o la1 pe1 ga1 sz1 hdk hz1
      have hnd2 : zNd (zSetOu a o) = zNd a := rfl
      refine z_iload C dX3_rival_17 4 rfl ?_
      refine z_aload_n C dX3_rival_19 0 rfl ?_
      refine z_get C inX3_rival_X3 0 wM_o rfl 2 (by decide) (C.w 3 rfl) rfl dX3_rival_20 ?_
      refine z_icmp_ge C 63 dX3_rival_23 (by decide) (zle_NN (by omega) (by omega)) (fun h9 => absurd h9 (by omega)) (fun c_23 => ?_)
      refine z_aload_n C dX3_rival_26 0 rfl ?_
      refine z_iload_n C dX3_rival_27 3 rfl ?_
      refine z_iconst C (nI 1) dX3_rival_28 (by decide) ?_
      refine z_iload C dX3_rival_29 4 rfl ?_
      refine z_ishl C dX3_rival_31 (v := nI (2 ^ d)) (zshl_1N (by omega)) ?_
      refine z_ior C dX3_rival_32 (v := nI ((zOu a) ||| (2 ^ d))) (zor_NN (zOu a) (2 ^ d)) ?_
      refine z_put C inX3_rival_X3 tyX3_ok nmX3 0 wM_o rfl 4 (by decide) (C.w 2 rfl) rfl (tyX3_ok 4 (by decide)) rfl rfl (Nat.le_of_ble_eq_true rfl) dX3_rival_33 (wM_set_ou2 _ _) ?_
      refine z_aload_n C dX3_rival_36 0 rfl ?_
      refine z_callV C (c_X3_allPaid l g q 0 (zSetOu a (zOu a ||| 2 ^ d)) la1 pe1 ga1 sz1 (zOk_out ha (by omega)) hz1  ) (cwV 0 C.ts gX3_rival_X3_allPaid rfl rfl rfl (by decide +kernel) ⟨Nat.le_of_ble_eq_true rfl, Nat.le_of_ble_eq_true rfl⟩) wM_o rfl rfl rfl (Nat.le_of_ble_eq_true rfl) dX3_rival_37 ⟨Nat.zero_le _, Nat.zero_le _⟩ (z_ie ?_)
      rintro _ ⟨la37, pe37, ga37, sz37, rfl, hz37⟩
      refine zW.top (y := iZ (aPs a d)) (congrArg iZ (aPs_eq ha (by omega)).symm) ?_
      have bp := aPs_bnd ha d
      have br := zRv_bnd ha d
      refine z_istore C dX3_rival_40 (by decide) [(5, .int (iZ (aPs a d))), (0, .ref (q 0)), (1, .int (iZ ((zRv a d).1))), (2, .int (iZ ((zRv a d).2))), (3, .int (nI (zOu a))), (4, .int (nI d))] rfl ?_
      refine z_iload C dX3_rival_42 0 rfl ?_
      refine z_iload_n C dX3_rival_44 3 rfl ?_
      refine z_icmp_gt C 51 dX3_rival_45 (by decide) (zlt_ZZ (x := ((zRv a d).2)) (y := (aPs a d)) (by unfold zB31; omega) (by unfold zB31; omega)) (fun c_45 => ?_) (fun c_45 => ?_)
      · skip
        refine z_iload C dX3_rival_51 5 rfl ?_
        refine z_istore_n C dX3_rival_53 (by decide) [(1, .int (nI d)), (5, .int (iZ (aPs a d))), (0, .ref (q 0)), (2, .int (iZ ((zRv a d).2))), (3, .int (nI (zOu a))), (4, .int (nI d))] rfl ?_
        refine z_iload C dX3_rival_54 1 rfl ?_
        refine z_istore_n C dX3_rival_56 (by decide) [(2, .int (iZ (aPs a d))), (1, .int (nI d)), (5, .int (iZ (aPs a d))), (0, .ref (q 0)), (3, .int (nI (zOu a))), (4, .int (nI d))] rfl ?_
        refine z_iinc C dX3_rival_57 5 (nI (d + 1)) rfl (nI_add d 1) (by decide) [(4, .int (nI (d + 1))), (2, .int (iZ (aPs a d))), (1, .int (nI d)), (5, .int (iZ (aPs a d))), (0, .ref (q 0)), (3, .int (nI (zOu a)))] rfl ?_
        refine z_goto C 17 dX3_rival_60 (by decide) ?_
        refine zW.pick (lv' := [(0, .ref (q 0)), (1, .int (nI d)), (2, .int (iZ (aPs a d))), (3, .int (nI (zOu a))), (4, .int (nI (d + 1)))]) [4, 2, 1, 5, 0] rfl ?_
        refine zW.lve (lv' := [(0, .ref (q 0)), (1, .int (iZ ((zRv a (d + 1)).1))), (2, .int (iZ ((zRv a (d + 1)).2))), (3, .int (nI (zOu a))), (4, .int (nI (d + 1)))]) (by first | (rw [show zRv a (d + 1) = ((d : Int), aPs a d) from if_pos c_45]; rfl) | (rw [show zRv a (d + 1) = zRv a d from if_neg c_45])) ?_
        exact ih17 (d + 1) (zOu a ||| 2 ^ d) la37 pe37 ga37 sz37 (by omega) hz37
      · skip
        refine z_goto C 57 dX3_rival_48 (by decide) ?_
        refine z_iinc C dX3_rival_57 5 (nI (d + 1)) rfl (nI_add d 1) (by decide) [(4, .int (nI (d + 1))), (5, .int (iZ (aPs a d))), (0, .ref (q 0)), (1, .int (iZ ((zRv a d).1))), (2, .int (iZ ((zRv a d).2))), (3, .int (nI (zOu a)))] rfl ?_
        refine z_goto C 17 dX3_rival_60 (by decide) ?_
        refine zW.pick (lv' := [(0, .ref (q 0)), (1, .int (iZ ((zRv a d).1))), (2, .int (iZ ((zRv a d).2))), (3, .int (nI (zOu a))), (4, .int (nI (d + 1)))]) [2, 3, 4, 5, 0] rfl ?_
        refine zW.lve (lv' := [(0, .ref (q 0)), (1, .int (iZ ((zRv a (d + 1)).1))), (2, .int (iZ ((zRv a (d + 1)).2))), (3, .int (nI (zOu a))), (4, .int (nI (d + 1)))]) (by first | (rw [show zRv a (d + 1) = ((d : Int), aPs a d) from if_pos c_45]; rfl) | (rw [show zRv a (d + 1) = zRv a d from if_neg c_45])) ?_
        exact ih17 (d + 1) (zOu a ||| 2 ^ d) la37 pe37 ga37 sz37 (by omega) hz37
  exact hlp17 (zNd a) 0 (zOu a) la pe ga sz (by omega) h0
theorem inX3_mean_X3 : ∀ w ∈ wsX30, w ∈ wsX3_mean := fun w h => List.mem_cons_of_mem _ (List.mem_append_right _ (h))
set_option maxRecDepth 100000 in
set_option maxHeartbeats 4000000 in
theorem c_X3_mean (l : Launch) (g : zG) (q : Nat → Nat) (th : Int) (a : zS) (la : Nat → Int) (pe : Nat → Nat) (ga : Nat → Int) (sz : Nat → Nat) (ha : zOk a) (h0 : zM0 la pe)  : zM g l yX3_mean wsX3_mean { frames := 8, cells := 0, slots := 0, locals := 182 } [.ref (q 0)] (wM g q th a la pe ga sz) (zPde (aMean a) (zMw g q 0 a)) 0 0 := by
  refine zM.of (cc := cX3_mean) (nL := 2) (ret := (some .double)) (lv := [(0, .ref (q 0))]) (by decide) rfl (Nat.le_of_ble_eq_true rfl) rfl ?_
  intro E C0 hi
  have C : zC g E cX3_mean RX3 wsX3_mean 2 (some .double) := C0
  obtain ⟨hnf, hnd, hnb, hou, hrs, hbd⟩ := id ha
  have hb12 := mBest_4096 ha
  have hpl := zPop_le (mBest a) 12
  refine z_aload_n C dX3_mean_0 0 rfl ?_
  refine z_iconst C (nI 0) dX3_mean_1 (by decide) ?_
  refine z_put C inX3_mean_X3 tyX3_ok nmX3 0 wM_o rfl 0 (by decide) (C.w 1 rfl) rfl (tyX3_ok 0 (by decide)) rfl rfl (Nat.le_of_ble_eq_true rfl) dX3_mean_2 (wM_set_th 0) ?_
  refine z_aload_n C dX3_mean_5 0 rfl ?_
  refine z_get C inX3_mean_X3 0 wM_o rfl 10 (by decide) (C.w 2 rfl) rfl dX3_mean_6 ?_
  refine z_aload_n C dX3_mean_9 0 rfl ?_
  refine z_callV C (c_X3_sale l g q 0 a la pe ga sz ha h0) (cwV 0 C.ts gX3_mean_X3_sale rfl rfl rfl (by decide +kernel) ⟨Nat.le_of_ble_eq_true rfl, Nat.le_of_ble_eq_true rfl⟩) wM_o rfl rfl rfl (Nat.le_of_ble_eq_true rfl) dX3_mean_10 ⟨Nat.zero_le _, Nat.zero_le _⟩ (z_ie ?_)
  rintro _ ⟨la10, pe10, ga10, sz10, rfl, hz10, hG10⟩
  refine z_ialdN C 6 wM_sz (by omega) (by decide) dX3_mean_13 (v := nI (sz10 (mBest a))) rfl ?_
  refine zW.top (y := nI (zPop (mBest a) 12)) (congrArg nI (hG10 _ (mBest_lt _)).2) ?_
  refine z_istore_n C dX3_mean_14 (by decide) [(1, .int (nI (zPop (mBest a) 12))), (0, .ref (q 0))] rfl ?_
  refine z_iload_n C dX3_mean_15 0 rfl ?_
  refine z_if_ne C 23 dX3_mean_16 (by decide) (zeq_N0 (by omega)) (fun c_16 => ?_) (fun c_16 => ?_)
  · skip
    refine z_aload_n C dX3_mean_23 1 rfl ?_
    refine z_callV C (c_X3_allPaid l g q 0 a la10 pe10 ga10 sz10 ha hz10  ) (cwV 0 C.ts gX3_mean_X3_allPaid rfl rfl rfl (by decide +kernel) ⟨Nat.le_of_ble_eq_true rfl, Nat.le_of_ble_eq_true rfl⟩) wM_o rfl rfl rfl (Nat.le_of_ble_eq_true rfl) dX3_mean_24 ⟨Nat.zero_le _, Nat.zero_le _⟩ (z_ie ?_)
    rintro _ ⟨la24, pe24, ga24, sz24, rfl, hz24⟩
    refine z_i2d C dX3_mean_27 ?_
    refine z_iload_n C dX3_mean_28 0 rfl ?_
    refine z_i2d C dX3_mean_29 ?_
    refine z_ddiv C dX3_mean_30 (zdiv_ok _ _ (fun h => c_16 ((zeq_N0 (by omega)).mp h))) ?_
    exact z_dretE C dX3_mean_31 (by unfold aMean; rw [zFw_0 ha]; show _ = if zPop (mBest a) 12 = 0 then _ else _; rw [if_neg c_16, aPaid_all ha]) ⟨_, _, _, _, rfl, hz24⟩
  · skip
    refine z_dconst0 C dX3_mean_19 ?_
    refine z_goto C 31 dX3_mean_20 (by decide) ?_
    exact z_dretE C dX3_mean_31 (by unfold aMean; rw [zFw_0 ha]; show _ = if zPop (mBest a) 12 = 0 then _ else _; rw [if_pos c_16]) ⟨_, _, _, _, rfl, hz10⟩
theorem inX3_digest_X3 : ∀ w ∈ wsX30, w ∈ wsX3_digest := fun w h => List.mem_cons_of_mem _ (List.mem_append_right _ (h))
set_option maxRecDepth 100000 in
set_option maxHeartbeats 4000000 in
theorem c_X3_digest (l : Launch) (g : zG) (q : Nat → Nat) (th : Int) (a : zS) (la : Nat → Int) (pe : Nat → Nat) (ga : Nat → Int) (sz : Nat → Nat) (ha : zOk a) (h0 : zM0 la pe)  : zM g l yX3_digest wsX3_digest { frames := 9, cells := 0, slots := 0, locals := 206 } [.ref (q 0)] (wM g q th a la pe ga sz) (zPle (aDigest a) (zMw g q 0 a)) 0 0 := by
  refine zM.of (cc := cX3_digest) (nL := 5) (ret := (some .long)) (lv := [(0, .ref (q 0))]) (by decide) rfl (Nat.le_of_ble_eq_true rfl) rfl ?_
  intro E C0 hi
  have C : zC g E cX3_digest RX3 wsX3_digest 5 (some .long) := C0
  obtain ⟨hnf, hnd, hnb, hou, hrs, hbd⟩ := id ha
  refine z_aload_n C dX3_digest_0 0 rfl ?_
  refine z_iconst C (nI 0) dX3_digest_1 (by decide) ?_
  refine z_put C inX3_digest_X3 tyX3_ok nmX3 0 wM_o rfl 0 (by decide) (C.w 1 rfl) rfl (tyX3_ok 0 (by decide)) rfl rfl (Nat.le_of_ble_eq_true rfl) dX3_digest_2 (wM_set_th 0) ?_
  refine z_ldc2 C (1619) (C.w 2 rfl) dX3_digest_5 ?_
  refine z_lstore_n C dX3_digest_8 (by decide) [(1, .long (1619)), (0, .ref (q 0))] rfl ?_
  refine z_iconst C (nI 0) dX3_digest_9 (by decide) ?_
  refine z_istore_n C dX3_digest_10 (by decide) [(3, .int (nI 0)), (1, .long (1619)), (0, .ref (q 0))] rfl ?_
  refine zW.pick (lv' := [(0, .ref (q 0)), (1, .long (1619)), (3, .int (nI 0))]) [2, 1, 0] rfl ?_
  have hlp11 : ∀ (k i : Nat) (la1 : Nat → Int) (pe1 : Nat → Nat) (ga1 : Nat → Int) (sz1 : Nat → Nat), i + k = 9 → (zM0 la1 pe1) → zW g l ({ frames := 9, cells := 0, slots := 0, locals := 206 }) E (zMQ g E (zPle (aDigest a) (zMw g q 0 a)) 0 0) 5 0 0 (wM g q 0 a la1 pe1 ga1 sz1) [(0, .ref (q 0)), (1, .long (zDg (aCount a) 1619 i)), (3, .int (nI i))] [] 11 := by
    intro k
    induction k with
    | zero =>
      intro i la1 pe1 ga1 sz1 hik hz1
      refine z_iload_n C dX3_digest_11 2 rfl ?_
      refine z_bipush C (nI 9) dX3_digest_12 (by decide) ?_
      refine z_icmp_ge C 36 dX3_digest_14 (by decide) (zle_NN (by omega) (by omega)) (fun c_14 => ?_) (fun h9 => absurd (by omega) h9)
      rw [show i = 9 by omega]
      refine z_iconst C (nI 0) dX3_digest_36 (by decide) ?_
      refine z_istore_n C dX3_digest_37 (by decide) [(3, .int (nI 0)), (0, .ref (q 0)), (1, .long (zDg (aCount a) 1619 9))] rfl ?_
      refine zW.pick (lv' := [(0, .ref (q 0)), (1, .long (zDg (aCount a) 1619 9)), (3, .int (nI 0))]) [1, 2, 0] rfl ?_
      have hlp38 : ∀ (k2 b2 : Nat) (la1 : Nat → Int) (pe1 : Nat → Nat) (ga1 : Nat → Int) (sz1 : Nat → Nat), b2 + k2 = zNf a → (zM0 la1 pe1) → zW g l ({ frames := 9, cells := 0, slots := 0, locals := 206 }) E (zMQ g E (zPle (aDigest a) (zMw g q 0 a)) 0 0) 5 0 0 (wM g q 0 a la1 pe1 ga1 sz1) [(0, .ref (q 0)), (1, .long (aDg2 a b2)), (3, .int (nI b2))] [] 38 := by
        intro k2
        induction k2 with
        | zero =>
          intro b2 la1 pe1 ga1 sz1 hb2k hz1
          refine z_iload_n C dX3_digest_38 2 rfl ?_
          refine z_aload_n C dX3_digest_39 0 rfl ?_
          refine z_get C inX3_digest_X3 0 wM_o rfl 1 (by decide) (C.w 4 rfl) rfl dX3_digest_40 ?_
          refine z_icmp_ge C 112 dX3_digest_43 (by decide) (zle_NN (by omega) (by omega)) (fun c_43 => ?_) (fun h9 => absurd (by omega) h9)
          rw [show b2 = zNf a by omega]
          refine z_iconst C (nI 0) dX3_digest_112 (by decide) ?_
          refine z_istore_n C dX3_digest_113 (by decide) [(3, .int (nI 0)), (0, .ref (q 0)), (1, .long (aDg2 a (zNf a)))] rfl ?_
          refine zW.pick (lv' := [(0, .ref (q 0)), (1, .long (aDg2 a (zNf a))), (3, .int (nI 0))]) [1, 2, 0] rfl ?_
          have hlp114 : ∀ (k3 b3 : Nat) (la1 : Nat → Int) (pe1 : Nat → Nat) (ga1 : Nat → Int) (sz1 : Nat → Nat), b3 + k3 = zNd a → (zM0 la1 pe1) → zW g l ({ frames := 9, cells := 0, slots := 0, locals := 206 }) E (zMQ g E (zPle (aDigest a) (zMw g q 0 a)) 0 0) 5 0 0 (wM g q 0 a la1 pe1 ga1 sz1) [(0, .ref (q 0)), (1, .long (aDg3 a b3)), (3, .int (nI b3))] [] 114 := by
            intro k3
            induction k3 with
            | zero =>
              intro b3 la1 pe1 ga1 sz1 hb3k hz1
              refine z_iload_n C dX3_digest_114 2 rfl ?_
              refine z_aload_n C dX3_digest_115 0 rfl ?_
              refine z_get C inX3_digest_X3 0 wM_o rfl 2 (by decide) (C.w 5 rfl) rfl dX3_digest_116 ?_
              refine z_icmp_ge C 159 dX3_digest_119 (by decide) (zle_NN (by omega) (by omega)) (fun c_119 => ?_) (fun h9 => absurd (by omega) h9)
              rw [show b3 = zNd a by omega]
              refine z_iconst C (nI 0) dX3_digest_159 (by decide) ?_
              refine z_istore_n C dX3_digest_160 (by decide) [(3, .int (nI 0)), (0, .ref (q 0)), (1, .long (aDg3 a (zNd a)))] rfl ?_
              refine zW.pick (lv' := [(0, .ref (q 0)), (1, .long (aDg3 a (zNd a))), (3, .int (nI 0))]) [1, 2, 0] rfl ?_
              have hlp161 : ∀ (k4 b4 : Nat) (la1 : Nat → Int) (pe1 : Nat → Nat) (ga1 : Nat → Int) (sz1 : Nat → Nat), b4 + k4 = zNb a → (zM0 la1 pe1) → zW g l ({ frames := 9, cells := 0, slots := 0, locals := 206 }) E (zMQ g E (zPle (aDigest a) (zMw g q 0 a)) 0 0) 5 0 0 (wM g q 0 a la1 pe1 ga1 sz1) [(0, .ref (q 0)), (1, .long (aDg4 a b4)), (3, .int (nI b4))] [] 161 := by
                intro k4
                induction k4 with
                | zero =>
                  intro b4 la1 pe1 ga1 sz1 hb4k hz1
                  refine z_iload_n C dX3_digest_161 2 rfl ?_
                  refine z_aload_n C dX3_digest_162 0 rfl ?_
                  refine z_get C inX3_digest_X3 0 wM_o rfl 3 (by decide) (C.w 6 rfl) rfl dX3_digest_163 ?_
                  refine z_icmp_ge C 206 dX3_digest_166 (by decide) (zle_NN (by omega) (by omega)) (fun c_166 => ?_) (fun h9 => absurd (by omega) h9)
                  refine z_lload_n C dX3_digest_206 1 rfl ?_
                  exact z_lretE C dX3_digest_207 (by rw [show b4 = zNb a by omega]; rfl) ⟨_, _, _, _, rfl, hz1⟩
                | succ k4 ih161 =>
                  intro b4 la1 pe1 ga1 sz1 hb4k hz1
                  refine z_iload_n C dX3_digest_161 2 rfl ?_
                  refine z_aload_n C dX3_digest_162 0 rfl ?_
                  refine z_get C inX3_digest_X3 0 wM_o rfl 3 (by decide) (C.w 6 rfl) rfl dX3_digest_163 ?_
                  refine z_icmp_ge C 206 dX3_digest_166 (by decide) (zle_NN (by omega) (by omega)) (fun h9 => absurd h9 (by omega)) (fun c_166 => ?_)
                  refine z_iconst C (nI 0) dX3_digest_169 (by decide) ?_
                  refine z_istore C dX3_digest_170 (by decide) [(4, .int (nI 0)), (0, .ref (q 0)), (1, .long (aDg4 a b4)), (3, .int (nI b4))] rfl ?_
                  refine zW.pick (lv' := [(0, .ref (q 0)), (1, .long (aDg4 a b4)), (3, .int (nI b4)), (4, .int (nI 0))]) [1, 2, 3, 0] rfl ?_
                  have hlp172 : ∀ (kj4 j4 : Nat) (la1 : Nat → Int) (pe1 : Nat → Nat) (ga1 : Nat → Int) (sz1 : Nat → Nat), j4 + kj4 = 8 → (zM0 la1 pe1) → zW g l ({ frames := 9, cells := 0, slots := 0, locals := 206 }) E (zMQ g E (zPle (aDigest a) (zMw g q 0 a)) 0 0) 5 0 0 (wM g q 0 a la1 pe1 ga1 sz1) [(0, .ref (q 0)), (1, .long (zDg (aTold a b4) (aDg4 a b4) j4)), (3, .int (nI b4)), (4, .int (nI j4))] [] 172 := by
                    intro kj4
                    induction kj4 with
                    | zero =>
                      intro j4 la1 pe1 ga1 sz1 hj4k hz1
                      refine z_iload C dX3_digest_172 3 rfl ?_
                      refine z_bipush C (nI 8) dX3_digest_174 (by decide) ?_
                      refine z_icmp_ge C 200 dX3_digest_176 (by decide) (zle_NN (by omega) (by omega)) (fun c_176 => ?_) (fun h9 => absurd (by omega) h9)
                      refine z_iinc C dX3_digest_200 2 (nI (b4 + 1)) rfl (nI_add b4 1) (by decide) [(3, .int (nI (b4 + 1))), (0, .ref (q 0)), (1, .long (zDg (aTold a b4) (aDg4 a b4) j4)), (4, .int (nI j4))] rfl ?_
                      refine z_goto C 161 dX3_digest_203 (by decide) ?_
                      refine zW.pick (lv' := [(0, .ref (q 0)), (1, .long (zDg (aTold a b4) (aDg4 a b4) j4)), (3, .int (nI (b4 + 1)))]) [1, 2, 0] rfl ?_
                      refine zW.lve (lv' := [(0, .ref (q 0)), (1, .long (aDg4 a (b4 + 1))), (3, .int (nI (b4 + 1)))]) ((by rw [show j4 = 8 by omega]; rfl)) ?_
                      exact ih161 (b4 + 1) la1 pe1 ga1 sz1 (by omega) hz1
                    | succ kj4 ih172 =>
                      intro j4 la1 pe1 ga1 sz1 hj4k hz1
                      refine z_iload C dX3_digest_172 3 rfl ?_
                      refine z_bipush C (nI 8) dX3_digest_174 (by decide) ?_
                      refine z_icmp_ge C 200 dX3_digest_176 (by decide) (zle_NN (by omega) (by omega)) (fun h9 => absurd h9 (by omega)) (fun c_176 => ?_)
                      refine z_lload_n C dX3_digest_179 1 rfl ?_
                      refine z_ldc2 C (31) (C.w 3 rfl) dX3_digest_180 ?_
                      refine z_lmul C dX3_digest_183 (v := (zDg (aTold a b4) (aDg4 a b4) j4) * (31)) rfl ?_
                      refine z_aload_n C dX3_digest_184 0 rfl ?_
                      refine z_iload_n C dX3_digest_185 2 rfl ?_
                      refine z_iload C dX3_digest_186 3 rfl ?_
                      refine z_callV C (c_X3_bidTold l g q 0 a la1 pe1 ga1 sz1 ha hz1 b4 j4 (by omega) (by omega)) (cwV 2 C.ts gX3_digest_X3_bidTold rfl rfl rfl (by decide +kernel) ⟨Nat.le_of_ble_eq_true rfl, Nat.le_of_ble_eq_true rfl⟩) wM_o rfl rfl rfl (Nat.le_of_ble_eq_true rfl) dX3_digest_188 ⟨Nat.zero_le _, Nat.zero_le _⟩ (z_ie ?_)
                      rintro _ ⟨la188, pe188, ga188, sz188, rfl, hz188⟩
                      refine z_i2l C dX3_digest_191 (v := (iZ (aTold a b4 j4)).toInt64) rfl ?_
                      refine z_ladd C dX3_digest_192 (v := ((zDg (aTold a b4) (aDg4 a b4) j4) * (31)) + ((iZ (aTold a b4 j4)).toInt64)) rfl ?_
                      refine z_lstore_n C dX3_digest_193 (by decide) [(1, .long (((zDg (aTold a b4) (aDg4 a b4) j4) * (31)) + ((iZ (aTold a b4 j4)).toInt64))), (0, .ref (q 0)), (3, .int (nI b4)), (4, .int (nI j4))] rfl ?_
                      refine z_iinc C dX3_digest_194 3 (nI (j4 + 1)) rfl (nI_add j4 1) (by decide) [(4, .int (nI (j4 + 1))), (1, .long (((zDg (aTold a b4) (aDg4 a b4) j4) * (31)) + ((iZ (aTold a b4 j4)).toInt64))), (0, .ref (q 0)), (3, .int (nI b4))] rfl ?_
                      refine z_goto C 172 dX3_digest_197 (by decide) ?_
                      refine zW.pick (lv' := [(0, .ref (q 0)), (1, .long (((zDg (aTold a b4) (aDg4 a b4) j4) * (31)) + ((iZ (aTold a b4 j4)).toInt64))), (3, .int (nI b4)), (4, .int (nI (j4 + 1)))]) [2, 1, 3, 0] rfl ?_
                      refine zW.lve (lv' := [(0, .ref (q 0)), (1, .long (zDg (aTold a b4) (aDg4 a b4) (j4 + 1))), (3, .int (nI b4)), (4, .int (nI (j4 + 1)))]) (rfl) ?_
                      exact ih172 (j4 + 1) la188 pe188 ga188 sz188 (by omega) hz188
                  exact hlp172 (8) 0 la1 pe1 ga1 sz1 (by omega) hz1
              exact hlp161 (zNb a) 0 la1 pe1 ga1 sz1 (by omega) hz1
            | succ k3 ih114 =>
              intro b3 la1 pe1 ga1 sz1 hb3k hz1
              refine z_iload_n C dX3_digest_114 2 rfl ?_
              refine z_aload_n C dX3_digest_115 0 rfl ?_
              refine z_get C inX3_digest_X3 0 wM_o rfl 2 (by decide) (C.w 5 rfl) rfl dX3_digest_116 ?_
              refine z_icmp_ge C 159 dX3_digest_119 (by decide) (zle_NN (by omega) (by omega)) (fun h9 => absurd h9 (by omega)) (fun c_119 => ?_)
              refine z_iconst C (nI 0) dX3_digest_122 (by decide) ?_
              refine z_istore C dX3_digest_123 (by decide) [(4, .int (nI 0)), (0, .ref (q 0)), (1, .long (aDg3 a b3)), (3, .int (nI b3))] rfl ?_
              refine zW.pick (lv' := [(0, .ref (q 0)), (1, .long (aDg3 a b3)), (3, .int (nI b3)), (4, .int (nI 0))]) [1, 2, 3, 0] rfl ?_
              have hlp125 : ∀ (kj3 j3 : Nat) (la1 : Nat → Int) (pe1 : Nat → Nat) (ga1 : Nat → Int) (sz1 : Nat → Nat), j3 + kj3 = 6 → (zM0 la1 pe1) → zW g l ({ frames := 9, cells := 0, slots := 0, locals := 206 }) E (zMQ g E (zPle (aDigest a) (zMw g q 0 a)) 0 0) 5 0 0 (wM g q 0 a la1 pe1 ga1 sz1) [(0, .ref (q 0)), (1, .long (zDg (aAbout a b3) (aDg3 a b3) j3)), (3, .int (nI b3)), (4, .int (nI j3))] [] 125 := by
                intro kj3
                induction kj3 with
                | zero =>
                  intro j3 la1 pe1 ga1 sz1 hj3k hz1
                  refine z_iload C dX3_digest_125 3 rfl ?_
                  refine z_bipush C (nI 6) dX3_digest_127 (by decide) ?_
                  refine z_icmp_ge C 153 dX3_digest_129 (by decide) (zle_NN (by omega) (by omega)) (fun c_129 => ?_) (fun h9 => absurd (by omega) h9)
                  refine z_iinc C dX3_digest_153 2 (nI (b3 + 1)) rfl (nI_add b3 1) (by decide) [(3, .int (nI (b3 + 1))), (0, .ref (q 0)), (1, .long (zDg (aAbout a b3) (aDg3 a b3) j3)), (4, .int (nI j3))] rfl ?_
                  refine z_goto C 114 dX3_digest_156 (by decide) ?_
                  refine zW.pick (lv' := [(0, .ref (q 0)), (1, .long (zDg (aAbout a b3) (aDg3 a b3) j3)), (3, .int (nI (b3 + 1)))]) [1, 2, 0] rfl ?_
                  refine zW.lve (lv' := [(0, .ref (q 0)), (1, .long (aDg3 a (b3 + 1))), (3, .int (nI (b3 + 1)))]) ((by rw [show j3 = 6 by omega]; rfl)) ?_
                  exact ih114 (b3 + 1) la1 pe1 ga1 sz1 (by omega) hz1
                | succ kj3 ih125 =>
                  intro j3 la1 pe1 ga1 sz1 hj3k hz1
                  refine z_iload C dX3_digest_125 3 rfl ?_
                  refine z_bipush C (nI 6) dX3_digest_127 (by decide) ?_
                  refine z_icmp_ge C 153 dX3_digest_129 (by decide) (zle_NN (by omega) (by omega)) (fun h9 => absurd h9 (by omega)) (fun c_129 => ?_)
                  refine z_lload_n C dX3_digest_132 1 rfl ?_
                  refine z_ldc2 C (31) (C.w 3 rfl) dX3_digest_133 ?_
                  refine z_lmul C dX3_digest_136 (v := (zDg (aAbout a b3) (aDg3 a b3) j3) * (31)) rfl ?_
                  refine z_aload_n C dX3_digest_137 0 rfl ?_
                  refine z_iload_n C dX3_digest_138 2 rfl ?_
                  refine z_iload C dX3_digest_139 3 rfl ?_
                  refine z_callV C (c_X3_bidderTold l g q 0 a la1 pe1 ga1 sz1 ha hz1 b3 j3 (by omega) (by omega)) (cwV 2 C.ts gX3_digest_X3_bidderTold rfl rfl rfl (by decide +kernel) ⟨Nat.le_of_ble_eq_true rfl, Nat.le_of_ble_eq_true rfl⟩) wM_o rfl rfl rfl (Nat.le_of_ble_eq_true rfl) dX3_digest_141 ⟨Nat.zero_le _, Nat.zero_le _⟩ (z_ie ?_)
                  rintro _ ⟨la141, pe141, ga141, sz141, rfl, hz141⟩
                  refine z_i2l C dX3_digest_144 (v := (iZ (aAbout a b3 j3)).toInt64) rfl ?_
                  refine z_ladd C dX3_digest_145 (v := ((zDg (aAbout a b3) (aDg3 a b3) j3) * (31)) + ((iZ (aAbout a b3 j3)).toInt64)) rfl ?_
                  refine z_lstore_n C dX3_digest_146 (by decide) [(1, .long (((zDg (aAbout a b3) (aDg3 a b3) j3) * (31)) + ((iZ (aAbout a b3 j3)).toInt64))), (0, .ref (q 0)), (3, .int (nI b3)), (4, .int (nI j3))] rfl ?_
                  refine z_iinc C dX3_digest_147 3 (nI (j3 + 1)) rfl (nI_add j3 1) (by decide) [(4, .int (nI (j3 + 1))), (1, .long (((zDg (aAbout a b3) (aDg3 a b3) j3) * (31)) + ((iZ (aAbout a b3 j3)).toInt64))), (0, .ref (q 0)), (3, .int (nI b3))] rfl ?_
                  refine z_goto C 125 dX3_digest_150 (by decide) ?_
                  refine zW.pick (lv' := [(0, .ref (q 0)), (1, .long (((zDg (aAbout a b3) (aDg3 a b3) j3) * (31)) + ((iZ (aAbout a b3 j3)).toInt64))), (3, .int (nI b3)), (4, .int (nI (j3 + 1)))]) [2, 1, 3, 0] rfl ?_
                  refine zW.lve (lv' := [(0, .ref (q 0)), (1, .long (zDg (aAbout a b3) (aDg3 a b3) (j3 + 1))), (3, .int (nI b3)), (4, .int (nI (j3 + 1)))]) (rfl) ?_
                  exact ih125 (j3 + 1) la141 pe141 ga141 sz141 (by omega) hz141
              exact hlp125 (6) 0 la1 pe1 ga1 sz1 (by omega) hz1
          exact hlp114 (zNd a) 0 la1 pe1 ga1 sz1 (by omega) hz1
        | succ k2 ih38 =>
          intro b2 la1 pe1 ga1 sz1 hb2k hz1
          refine z_iload_n C dX3_digest_38 2 rfl ?_
          refine z_aload_n C dX3_digest_39 0 rfl ?_
          refine z_get C inX3_digest_X3 0 wM_o rfl 1 (by decide) (C.w 4 rfl) rfl dX3_digest_40 ?_
          refine z_icmp_ge C 112 dX3_digest_43 (by decide) (zle_NN (by omega) (by omega)) (fun h9 => absurd h9 (by omega)) (fun c_43 => ?_)
          refine z_iconst C (nI 0) dX3_digest_46 (by decide) ?_
          refine z_istore C dX3_digest_47 (by decide) [(4, .int (nI 0)), (0, .ref (q 0)), (1, .long (aDg2 a b2)), (3, .int (nI b2))] rfl ?_
          refine zW.pick (lv' := [(0, .ref (q 0)), (1, .long (aDg2 a b2)), (3, .int (nI b2)), (4, .int (nI 0))]) [1, 2, 3, 0] rfl ?_
          have hlp49 : ∀ (kj1 j1 : Nat) (la1 : Nat → Int) (pe1 : Nat → Nat) (ga1 : Nat → Int) (sz1 : Nat → Nat), j1 + kj1 = 3 → (zM0 la1 pe1) → zW g l ({ frames := 9, cells := 0, slots := 0, locals := 206 }) E (zMQ g E (zPle (aDigest a) (zMw g q 0 a)) 0 0) 5 0 0 (wM g q 0 a la1 pe1 ga1 sz1) [(0, .ref (q 0)), (1, .long (zDg (aLand a b2) (aDg2 a b2) j1)), (3, .int (nI b2)), (4, .int (nI j1))] [] 49 := by
            intro kj1
            induction kj1 with
            | zero =>
              intro j1 la1 pe1 ga1 sz1 hj1k hz1
              refine z_iload C dX3_digest_49 3 rfl ?_
              refine z_iconst C (nI 3) dX3_digest_51 (by decide) ?_
              refine z_icmp_ge C 76 dX3_digest_52 (by decide) (zle_NN (by omega) (by omega)) (fun c_52 => ?_) (fun h9 => absurd (by omega) h9)
              rw [show j1 = 3 by omega]
              refine z_iconst C (nI 0) dX3_digest_76 (by decide) ?_
              refine z_istore C dX3_digest_77 (by decide) [(4, .int (nI 0)), (0, .ref (q 0)), (1, .long (zDg (aLand a b2) (aDg2 a b2) 3)), (3, .int (nI b2))] rfl ?_
              refine zW.pick (lv' := [(0, .ref (q 0)), (1, .long (zDg (aLand a b2) (aDg2 a b2) 3)), (3, .int (nI b2)), (4, .int (nI 0))]) [1, 2, 3, 0] rfl ?_
              have hlp79 : ∀ (kj2 j2 : Nat) (la1 : Nat → Int) (pe1 : Nat → Nat) (ga1 : Nat → Int) (sz1 : Nat → Nat), j2 + kj2 = 3 → (zM0 la1 pe1) → zW g l ({ frames := 9, cells := 0, slots := 0, locals := 206 }) E (zMQ g E (zPle (aDigest a) (zMw g q 0 a)) 0 0) 5 0 0 (wM g q 0 a la1 pe1 ga1 sz1) [(0, .ref (q 0)), (1, .long (zDg (aAlone a b2) (zDg (aLand a b2) (aDg2 a b2) 3) j2)), (3, .int (nI b2)), (4, .int (nI j2))] [] 79 := by
                intro kj2
                induction kj2 with
                | zero =>
                  intro j2 la1 pe1 ga1 sz1 hj2k hz1
                  refine z_iload C dX3_digest_79 3 rfl ?_
                  refine z_iconst C (nI 3) dX3_digest_81 (by decide) ?_
                  refine z_icmp_ge C 106 dX3_digest_82 (by decide) (zle_NN (by omega) (by omega)) (fun c_82 => ?_) (fun h9 => absurd (by omega) h9)
                  refine z_iinc C dX3_digest_106 2 (nI (b2 + 1)) rfl (nI_add b2 1) (by decide) [(3, .int (nI (b2 + 1))), (0, .ref (q 0)), (1, .long (zDg (aAlone a b2) (zDg (aLand a b2) (aDg2 a b2) 3) j2)), (4, .int (nI j2))] rfl ?_
                  refine z_goto C 38 dX3_digest_109 (by decide) ?_
                  refine zW.pick (lv' := [(0, .ref (q 0)), (1, .long (zDg (aAlone a b2) (zDg (aLand a b2) (aDg2 a b2) 3) j2)), (3, .int (nI (b2 + 1)))]) [1, 2, 0] rfl ?_
                  refine zW.lve (lv' := [(0, .ref (q 0)), (1, .long (aDg2 a (b2 + 1))), (3, .int (nI (b2 + 1)))]) ((by rw [show j2 = 3 by omega]; rfl)) ?_
                  exact ih38 (b2 + 1) la1 pe1 ga1 sz1 (by omega) hz1
                | succ kj2 ih79 =>
                  intro j2 la1 pe1 ga1 sz1 hj2k hz1
                  refine z_iload C dX3_digest_79 3 rfl ?_
                  refine z_iconst C (nI 3) dX3_digest_81 (by decide) ?_
                  refine z_icmp_ge C 106 dX3_digest_82 (by decide) (zle_NN (by omega) (by omega)) (fun h9 => absurd h9 (by omega)) (fun c_82 => ?_)
                  refine z_lload_n C dX3_digest_85 1 rfl ?_
                  refine z_ldc2 C (31) (C.w 3 rfl) dX3_digest_86 ?_
                  refine z_lmul C dX3_digest_89 (v := (zDg (aAlone a b2) (zDg (aLand a b2) (aDg2 a b2) 3) j2) * (31)) rfl ?_
                  refine z_aload_n C dX3_digest_90 0 rfl ?_
                  refine z_iload_n C dX3_digest_91 2 rfl ?_
                  refine z_iload C dX3_digest_92 3 rfl ?_
                  refine z_callV C (c_X3_aloneTold l g q 0 a la1 pe1 ga1 sz1 ha hz1 b2 j2 (by omega) (by omega)) (cwV 2 C.ts gX3_digest_X3_aloneTold rfl rfl rfl (by decide +kernel) ⟨Nat.le_of_ble_eq_true rfl, Nat.le_of_ble_eq_true rfl⟩) wM_o rfl rfl rfl (Nat.le_of_ble_eq_true rfl) dX3_digest_94 ⟨Nat.zero_le _, Nat.zero_le _⟩ (z_ie ?_)
                  rintro _ ⟨la94, pe94, ga94, sz94, rfl, hz94⟩
                  refine z_i2l C dX3_digest_97 (v := (iZ (aAlone a b2 j2)).toInt64) rfl ?_
                  refine z_ladd C dX3_digest_98 (v := ((zDg (aAlone a b2) (zDg (aLand a b2) (aDg2 a b2) 3) j2) * (31)) + ((iZ (aAlone a b2 j2)).toInt64)) rfl ?_
                  refine z_lstore_n C dX3_digest_99 (by decide) [(1, .long (((zDg (aAlone a b2) (zDg (aLand a b2) (aDg2 a b2) 3) j2) * (31)) + ((iZ (aAlone a b2 j2)).toInt64))), (0, .ref (q 0)), (3, .int (nI b2)), (4, .int (nI j2))] rfl ?_
                  refine z_iinc C dX3_digest_100 3 (nI (j2 + 1)) rfl (nI_add j2 1) (by decide) [(4, .int (nI (j2 + 1))), (1, .long (((zDg (aAlone a b2) (zDg (aLand a b2) (aDg2 a b2) 3) j2) * (31)) + ((iZ (aAlone a b2 j2)).toInt64))), (0, .ref (q 0)), (3, .int (nI b2))] rfl ?_
                  refine z_goto C 79 dX3_digest_103 (by decide) ?_
                  refine zW.pick (lv' := [(0, .ref (q 0)), (1, .long (((zDg (aAlone a b2) (zDg (aLand a b2) (aDg2 a b2) 3) j2) * (31)) + ((iZ (aAlone a b2 j2)).toInt64))), (3, .int (nI b2)), (4, .int (nI (j2 + 1)))]) [2, 1, 3, 0] rfl ?_
                  refine zW.lve (lv' := [(0, .ref (q 0)), (1, .long (zDg (aAlone a b2) (zDg (aLand a b2) (aDg2 a b2) 3) (j2 + 1))), (3, .int (nI b2)), (4, .int (nI (j2 + 1)))]) (rfl) ?_
                  exact ih79 (j2 + 1) la94 pe94 ga94 sz94 (by omega) hz94
              exact hlp79 (3) 0 la1 pe1 ga1 sz1 (by omega) hz1
            | succ kj1 ih49 =>
              intro j1 la1 pe1 ga1 sz1 hj1k hz1
              refine z_iload C dX3_digest_49 3 rfl ?_
              refine z_iconst C (nI 3) dX3_digest_51 (by decide) ?_
              refine z_icmp_ge C 76 dX3_digest_52 (by decide) (zle_NN (by omega) (by omega)) (fun h9 => absurd h9 (by omega)) (fun c_52 => ?_)
              refine z_lload_n C dX3_digest_55 1 rfl ?_
              refine z_ldc2 C (31) (C.w 3 rfl) dX3_digest_56 ?_
              refine z_lmul C dX3_digest_59 (v := (zDg (aLand a b2) (aDg2 a b2) j1) * (31)) rfl ?_
              refine z_aload_n C dX3_digest_60 0 rfl ?_
              refine z_iload_n C dX3_digest_61 2 rfl ?_
              refine z_iload C dX3_digest_62 3 rfl ?_
              refine z_callV C (c_X3_fieldTold l g q 0 a la1 pe1 ga1 sz1 ha hz1 b2 j1 (by omega) (by omega)) (cwV 2 C.ts gX3_digest_X3_fieldTold rfl rfl rfl (by decide +kernel) ⟨Nat.le_of_ble_eq_true rfl, Nat.le_of_ble_eq_true rfl⟩) wM_o rfl rfl rfl (Nat.le_of_ble_eq_true rfl) dX3_digest_64 ⟨Nat.zero_le _, Nat.zero_le _⟩ (z_ie ?_)
              rintro _ ⟨la64, pe64, ga64, sz64, rfl, hz64⟩
              refine z_i2l C dX3_digest_67 (v := (iZ (aLand a b2 j1)).toInt64) rfl ?_
              refine z_ladd C dX3_digest_68 (v := ((zDg (aLand a b2) (aDg2 a b2) j1) * (31)) + ((iZ (aLand a b2 j1)).toInt64)) rfl ?_
              refine z_lstore_n C dX3_digest_69 (by decide) [(1, .long (((zDg (aLand a b2) (aDg2 a b2) j1) * (31)) + ((iZ (aLand a b2 j1)).toInt64))), (0, .ref (q 0)), (3, .int (nI b2)), (4, .int (nI j1))] rfl ?_
              refine z_iinc C dX3_digest_70 3 (nI (j1 + 1)) rfl (nI_add j1 1) (by decide) [(4, .int (nI (j1 + 1))), (1, .long (((zDg (aLand a b2) (aDg2 a b2) j1) * (31)) + ((iZ (aLand a b2 j1)).toInt64))), (0, .ref (q 0)), (3, .int (nI b2))] rfl ?_
              refine z_goto C 49 dX3_digest_73 (by decide) ?_
              refine zW.pick (lv' := [(0, .ref (q 0)), (1, .long (((zDg (aLand a b2) (aDg2 a b2) j1) * (31)) + ((iZ (aLand a b2 j1)).toInt64))), (3, .int (nI b2)), (4, .int (nI (j1 + 1)))]) [2, 1, 3, 0] rfl ?_
              refine zW.lve (lv' := [(0, .ref (q 0)), (1, .long (zDg (aLand a b2) (aDg2 a b2) (j1 + 1))), (3, .int (nI b2)), (4, .int (nI (j1 + 1)))]) (rfl) ?_
              exact ih49 (j1 + 1) la64 pe64 ga64 sz64 (by omega) hz64
          exact hlp49 (3) 0 la1 pe1 ga1 sz1 (by omega) hz1
      exact hlp38 (zNf a) 0 la1 pe1 ga1 sz1 (by omega) hz1
    | succ k ih11 =>
      intro i la1 pe1 ga1 sz1 hik hz1
      refine z_iload_n C dX3_digest_11 2 rfl ?_
      refine z_bipush C (nI 9) dX3_digest_12 (by decide) ?_
      refine z_icmp_ge C 36 dX3_digest_14 (by decide) (zle_NN (by omega) (by omega)) (fun h9 => absurd h9 (by omega)) (fun c_14 => ?_)
      refine z_lload_n C dX3_digest_17 1 rfl ?_
      refine z_ldc2 C (31) (C.w 3 rfl) dX3_digest_18 ?_
      refine z_lmul C dX3_digest_21 (v := (zDg (aCount a) 1619 i) * (31)) rfl ?_
      refine z_aload_n C dX3_digest_22 0 rfl ?_
      refine z_iload_n C dX3_digest_23 2 rfl ?_
      refine z_callV C (c_X3_counted l g q 0 a la1 pe1 ga1 sz1 ha hz1 i (by omega)) (cwV 1 C.ts gX3_digest_X3_counted rfl rfl rfl (by decide +kernel) ⟨Nat.le_of_ble_eq_true rfl, Nat.le_of_ble_eq_true rfl⟩) wM_o rfl rfl rfl (Nat.le_of_ble_eq_true rfl) dX3_digest_24 ⟨Nat.zero_le _, Nat.zero_le _⟩ (z_ie ?_)
      rintro _ ⟨la24, pe24, ga24, sz24, rfl, hz24⟩
      refine z_i2l C dX3_digest_27 (v := (iZ (aCount a i)).toInt64) rfl ?_
      refine z_ladd C dX3_digest_28 (v := ((zDg (aCount a) 1619 i) * (31)) + ((iZ (aCount a i)).toInt64)) rfl ?_
      refine z_lstore_n C dX3_digest_29 (by decide) [(1, .long (((zDg (aCount a) 1619 i) * (31)) + ((iZ (aCount a i)).toInt64))), (0, .ref (q 0)), (3, .int (nI i))] rfl ?_
      refine z_iinc C dX3_digest_30 2 (nI (i + 1)) rfl (nI_add i 1) (by decide) [(3, .int (nI (i + 1))), (1, .long (((zDg (aCount a) 1619 i) * (31)) + ((iZ (aCount a i)).toInt64))), (0, .ref (q 0))] rfl ?_
      refine z_goto C 11 dX3_digest_33 (by decide) ?_
      refine zW.pick (lv' := [(0, .ref (q 0)), (1, .long (((zDg (aCount a) 1619 i) * (31)) + ((iZ (aCount a i)).toInt64))), (3, .int (nI (i + 1)))]) [2, 1, 0] rfl ?_
      refine zW.lve (lv' := [(0, .ref (q 0)), (1, .long (zDg (aCount a) 1619 (i + 1))), (3, .int (nI (i + 1)))]) (rfl) ?_
      exact ih11 (i + 1) la24 pe24 ga24 sz24 (by omega) hz24
  exact hlp11 (9) 0 la pe ga sz (by omega) h0
