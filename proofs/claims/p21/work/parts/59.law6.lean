theorem zP_nil {D : va_G} {cl : List vw_C} {H : Heap} : va_P D cl [] H := fun k r hk => by simp at hk
theorem zD_nil {A : Nat → Prop} : va_D A [] := ⟨fun i j r t hi => (by simp at hi), fun k r hk => by simp at hk⟩
theorem z_arr {ty : FieldType} {A : Array Value} {s : State} (h : (Cond.arrayClass ty).before A s = true) : ∃ cA : ClassId, ArrOfT s cA ty ∧ s.vm.findClass ("[" ++ ty.toString) = some cA := by
  obtain ⟨cA, kA, comp, h1, h2, h3⟩ := Cond.arrayClass_spec h
  exact ⟨cA, fun n z => ⟨fun k h => (by cases h), kA, h2, comp, h3⟩, h1⟩
theorem zNW_on : ∀ w ∈ zNW, w.onTables = true := by decide +kernel
theorem zNW_in : ∀ w ∈ zNW, w ∈ lw_tbl := by decide +kernel
set_option maxRecDepth 100000 in
set_option maxHeartbeats 4000000 in
theorem law_body (l : Launch) (g : zG) (E : zEnv) (Q : State → Prop) (C : zC g E cL_law RL wsL_law 17 (some .boolean)) {b L : Nat} {xs : Nat → Int32} (S : zSc E b L xs) (kend : ∀ (W : va_W) (lv : List (Nat × Value)), zW g l room_1 E Q 17 689705 7032353 W lv [.int (nI 1)] 820) : zW g l room_1 E Q 17 0 0 [] [(0, .ref b)] [] 0 := by
  have hLs := S.2.2.2
  refine z_new C inlX2 tyX2 tyX2_ok (C.w 0 rfl) (C.w 1 rfl) (C.w 2 rfl) (ci := 2) rfl _ nwX2 (Nat.le_of_ble_eq_true rfl) (Nat.le_of_ble_eq_true rfl) dL_law_0 (fun n0 => ?_)
  refine z_dup C dL_law_3 rfl ?_
  refine z_callI (mc := 19) (ms := 129) C (c_X2_init l g n0) (cwI 0 C.ts gL_law_X2_init rfl rfl rfl (C.w 2 rfl) (C.w 4 rfl) (C.w 5 rfl) rfl (by decide +kernel) ⟨Nat.le_of_ble_eq_true rfl, Nat.le_of_ble_eq_true rfl⟩) rfl rfl (Nat.le_of_ble_eq_true rfl) dL_law_4 ⟨Nat.le_of_ble_eq_true rfl, Nat.le_of_ble_eq_true rfl⟩ ?_
  rintro _ _ ⟨rfl, q, e0, bs0, wb0, pd0, gw0, rfl, hs0⟩
  refine zW.eqst (st2 := [.ref (q 0)]) (by rw [e0]; rfl) ?_
  refine zW.wid (k := 20) (n := 143) (Nat.le_of_ble_eq_true rfl) (Nat.le_of_ble_eq_true rfl) ?_
  refine z_astore_n C dL_law_7 (by decide) [(1, .ref (q 0)), (0, .ref b)] rfl ?_
  refine z_aload_n C dL_law_8 0 rfl ?_
  refine z_aload_n C dL_law_9 1 rfl ?_
  refine z_callSx C S (c_L_build l g q b L xs S.2.2.2 bs0 wb0 pd0 gw0 hs0) (va_cwS 2 C.ts gL_law_L_build rfl rfl rfl (by decide +kernel) ⟨Nat.le_of_ble_eq_true rfl, Nat.le_of_ble_eq_true rfl⟩) rfl rfl (Nat.le_of_ble_eq_true rfl) dL_law_10 ⟨by show (_ : Nat) ≤ 689705; (try dsimp only); omega, by show (_ : Nat) ≤ 7032353; (try dsimp only); omega⟩ ?_
  rintro _ _ ⟨p0, rfl, a0, p1, bs1, wb1, pd1, gw1, sm1, rfl, hp1, hi1, hs1⟩
  refine zW.eqst (st2 := [.ref p0]) rfl ?_
  refine z_astore_n C dL_law_13 (by decide) [(2, .ref p0), (1, .ref (q 0)), (0, .ref b)] rfl ?_
  refine z_aload_n C dL_law_14 0 rfl ?_
  refine z_ifnonnull C 20 dL_law_15 (by decide) ?_
  refine z_iconst C (nI 0) dL_law_20 (by decide) ?_
  refine z_istore_n C dL_law_21 (by decide) [(3, .int (nI 0)), (2, .ref p0), (1, .ref (q 0)), (0, .ref b)] rfl ?_
  refine zW.pick (lv' := [(0, .ref b), (1, .ref (q 0)), (2, .ref p0), (3, .int (nI 0))]) [3, 2, 1, 0] rfl ?_
  have hlp22 : ∀ (kt t : Nat) (a : zS) (p : Nat → Nat) (bs : Nat → Int × Nat) (wb : Nat → Nat → Int) (pd : Nat → Nat → Int) (gw : Nat → Nat → Int) (sm : Int × Nat × Nat), t + kt = 8 → (zInv a) → (zSet a bs wb pd gw 0 0) → (p 0 = p0) → zW g l (room_1) E (Q) 17 (85 + 5 * t) (668 + 39 * t) (wB g q a (zG0 a) bs wb pd gw ++ (wS g p a sm)) [(0, .ref b), (1, .ref (q 0)), (2, .ref p0), (3, .int (nI t))] [] 22 := by
    intro kt
    induction kt with
    | zero =>
      intro t a p bs wb pd gw sm htk hi9 hs hp0
      refine z_iload_n C dL_law_22 3 rfl ?_
      refine z_bipush C (nI 8) dL_law_23 (by decide) ?_
      refine z_icmp_ge C 815 dL_law_25 (by decide) (zle_NN (by omega) (by omega)) (fun c_25 => ?_) (fun h9 => absurd (by omega) h9)
      refine zW.wid (k := 125) (n := 980) (by omega) (by omega) ?_
      refine zW.lve (lv' := [(0, .ref b), (1, .ref (q 0)), (2, .ref (p 0)), (3, .int (nI t))]) (by rw [hp0]) ?_
      refine z_aload_n C dL_law_815 2 rfl ?_
      refine z_aload_n C dL_law_816 1 rfl ?_
      refine z_callV C (c_X3_isSame l g q p a bs wb pd gw sm hi9.1 hs) (cwV 1 C.ts gL_law_X3_isSame rfl rfl rfl (by decide +kernel) ⟨Nat.le_of_ble_eq_true rfl, Nat.le_of_ble_eq_true rfl⟩) (zapp_B wS_o) rfl rfl rfl (Nat.le_of_ble_eq_true rfl) dL_law_817 ⟨Nat.le_of_ble_eq_true rfl, Nat.le_of_ble_eq_true rfl⟩ ?_
      rintro _ W9 ⟨rfl, -⟩
      refine zW.eqst (st2 := [.int (nI 1)]) rfl ?_
      refine zW.wid (k := 689705) (n := 7032353) (Nat.le_of_ble_eq_true rfl) (Nat.le_of_ble_eq_true rfl) ?_
      exact kend _ _
    | succ kt ih22 =>
      intro t a p bs wb pd gw sm htk hi9 hs hp0
      refine z_iload_n C dL_law_22 3 rfl ?_
      refine z_bipush C (nI 8) dL_law_23 (by decide) ?_
      refine z_icmp_ge C 815 dL_law_25 (by decide) (zle_NN (by omega) (by omega)) (fun h9 => absurd h9 (by omega)) (fun c_25 => ?_)
      refine z_aload_n C dL_law_28 0 rfl ?_
      refine z_iload_n C dL_law_29 3 rfl ?_
      refine z_callSx C S (c_L_cell l g (wB g q a (zG0 a) bs wb pd gw ++ (wS g p a sm)) b L xs (by omega) t (by omega)) (va_cwS 2 C.ts gL_law_L_cell rfl rfl rfl (by decide +kernel) ⟨Nat.le_of_ble_eq_true rfl, Nat.le_of_ble_eq_true rfl⟩) rfl rfl (Nat.le_of_ble_eq_true rfl) dL_law_30 ⟨by show (_ : Nat) ≤ 689705; (try dsimp only); omega, by show (_ : Nat) ≤ 7032353; (try dsimp only); omega⟩ ?_
      rintro _ _ ⟨rfl, rfl⟩
      refine zW.eqst (st2 := [.int (zCe xs L t)]) rfl ?_
      refine z_sipush C (nI 389) dL_law_33 (by decide) ?_
      refine z_iload_n C dL_law_36 3 rfl ?_
      refine z_imul C dL_law_37 (v := nI (389 * t)) (pk_mul 389 t) ?_
      refine z_iadd C dL_law_38 (v := ((zCe xs L t) + (nI (389 * t)))) rfl ?_
      obtain ⟨x4, hx4⟩ : ∃ x4, ((zCe xs L t) + (nI (389 * t))) = x4 := ⟨_, rfl⟩
      refine zW.top hx4 ?_
      refine z_istore C dL_law_39 (by decide) [(4, .int x4), (0, .ref b), (1, .ref (q 0)), (2, .ref p0), (3, .int (nI t))] rfl ?_
      refine z_iconst C (nI 0) dL_law_41 (by decide) ?_
      refine z_istore C dL_law_42 (by decide) [(5, .int (nI 0)), (4, .int x4), (0, .ref b), (1, .ref (q 0)), (2, .ref p0), (3, .int (nI t))] rfl ?_
      refine zW.pick (lv' := [(0, .ref b), (1, .ref (q 0)), (2, .ref p0), (3, .int (nI t)), (4, .int x4), (5, .int (nI 0))]) [2, 3, 4, 5, 1, 0] rfl ?_
      have hlp44 : ∀ (kk2 k2 : Nat) (a : zS) (p : Nat → Nat) (bs : Nat → Int × Nat) (wb : Nat → Nat → Int) (pd : Nat → Nat → Int) (gw : Nat → Nat → Int) (sm : Int × Nat × Nat), k2 + kk2 = 2 → (zInv a) → (zSet a bs wb pd gw 0 0) → (p 0 = p0) → zW g l (room_1) E (Q) 17 (85 + 5 * t + 2 * k2) (668 + 39 * t + 17 * k2) (wB g q a (zG0 a) bs wb pd gw ++ (wS g p a sm)) [(0, .ref b), (1, .ref (q 0)), (2, .ref p0), (3, .int (nI t)), (4, .int x4), (5, .int (nI k2))] [] 44 := by
        intro kk2
        induction kk2 with
        | zero =>
          intro k2 a p bs wb pd gw sm hk2k hi9 hs hp0
          refine z_iload C dL_law_44 5 rfl ?_
          refine z_iconst C (nI 2) dL_law_46 (by decide) ?_
          refine z_icmp_ge C 80 dL_law_47 (by decide) (zle_NN (by omega) (by omega)) (fun c_47 => ?_) (fun h9 => absurd (by omega) h9)
          refine zW.pick (lv' := [(0, .ref b), (1, .ref (q 0)), (2, .ref p0), (3, .int (nI t))]) [0, 1, 2, 3] rfl ?_
          refine zW.lve (lv' := [(0, .ref b), (1, .ref (q 0)), (2, .ref (p 0)), (3, .int (nI t))]) (by rw [hp0]) ?_
          refine law_chk l g E Q C q p a bs wb pd gw sm hi9 hs b t _ _ (by omega) (by omega) ?_
          refine zW.lve (lv' := [(0, .ref b), (1, .ref (q 0)), (2, .ref p0), (3, .int (nI t))]) (by rw [hp0]) ?_
          refine z_iinc C dL_law_809 3 (nI (t + 1)) rfl (nI_add t 1) (by decide) [(3, .int (nI (t + 1))), (0, .ref b), (1, .ref (q 0)), (2, .ref p0)] rfl ?_
          refine z_goto C 22 dL_law_812 (by decide) ?_
          refine zW.pick (lv' := [(0, .ref b), (1, .ref (q 0)), (2, .ref p0), (3, .int (nI (t + 1)))]) [1, 2, 3, 0] rfl ?_
          refine zW.wid (k := 85 + 5 * (t + 1)) (n := 668 + 39 * (t + 1)) (by omega) (by omega) ?_
          exact ih22 (t + 1) a p bs wb pd gw sm (by omega) hi9 hs hp0
        | succ kk2 ih44 =>
          intro k2 a p bs wb pd gw sm hk2k hi9 hs hp0
          refine z_iload C dL_law_44 5 rfl ?_
          refine z_iconst C (nI 2) dL_law_46 (by decide) ?_
          refine z_icmp_ge C 80 dL_law_47 (by decide) (zle_NN (by omega) (by omega)) (fun h9 => absurd h9 (by omega)) (fun c_47 => ?_)
          refine zW.lve (lv' := [(0, .ref b), (1, .ref (q 0)), (2, .ref (p 0)), (3, .int (nI t)), (4, .int x4), (5, .int (nI k2))]) (by rw [hp0]) ?_
          refine z_aload_n C dL_law_50 1 rfl ?_
          refine z_aload_n C dL_law_51 2 rfl ?_
          refine z_iload C dL_law_52 4 rfl ?_
          refine z_iconst C (nI 2) dL_law_54 (by decide) ?_
          refine z_iload C dL_law_55 5 rfl ?_
          refine z_imul C dL_law_57 (v := nI (2 * k2)) (pk_mul 2 k2) ?_
          refine z_ishr C dL_law_58 (v := (x4 >>> ((nI (2 * k2)) &&& 31))) rfl ?_
          refine z_sipush C (nI 277) dL_law_59 (by decide) ?_
          refine z_iload C dL_law_62 5 rfl ?_
          refine z_imul C dL_law_64 (v := nI (277 * k2)) (pk_mul 277 k2) ?_
          refine z_iadd C dL_law_65 (v := ((x4 >>> ((nI (2 * k2)) &&& 31)) + (nI (277 * k2)))) rfl ?_
          refine z_callS C (c_L_act l g q p a bs wb pd gw sm ((x4 >>> ((nI (2 * k2)) &&& 31)) + (nI (277 * k2))) hi9 hs) (va_cwS 3 C.ts gL_law_L_act rfl rfl rfl (by decide +kernel) ⟨Nat.le_of_ble_eq_true rfl, Nat.le_of_ble_eq_true rfl⟩) rfl rfl (Nat.le_of_ble_eq_true rfl) dL_law_66 ⟨by show (_ : Nat) ≤ 689705; (try dsimp only); omega, by show (_ : Nat) ≤ 7032353; (try dsimp only); omega⟩ ?_
          rintro _ _ ⟨rfl, a2, p2, bs2, wb2, pd2, gw2, sm2, rfl, hp2, hi2, hs2⟩
          refine zW.eqst (st2 := [.int (bI true)]) rfl ?_
          refine z_if_ne C 74 dL_law_69 (by decide) (zeq_B0 _) (fun c_69 => ?_) (fun h9 => absurd h9 (by decide))
          refine z_iinc C dL_law_74 5 (nI (k2 + 1)) rfl (nI_add k2 1) (by decide) [(5, .int (nI (k2 + 1))), (0, .ref b), (1, .ref (q 0)), (2, .ref (p 0)), (3, .int (nI t)), (4, .int x4)] rfl ?_
          refine z_goto C 44 dL_law_77 (by decide) ?_
          refine zW.pick (lv' := [(0, .ref b), (1, .ref (q 0)), (2, .ref (p 0)), (3, .int (nI t)), (4, .int x4), (5, .int (nI (k2 + 1)))]) [1, 2, 3, 4, 5, 0] rfl ?_
          refine zW.lve (lv' := [(0, .ref b), (1, .ref (q 0)), (2, .ref p0), (3, .int (nI t)), (4, .int x4), (5, .int (nI (k2 + 1)))]) (by rw [hp0]) ?_
          refine zW.wid (k := 85 + 5 * t + 2 * (k2 + 1)) (n := 668 + 39 * t + 17 * (k2 + 1)) (by omega) (by omega) ?_
          exact ih44 (k2 + 1) a2 p2 bs2 wb2 pd2 gw2 sm2 (by omega) hi2 hs2 (by rw [hp2, hp0])
      exact hlp44 (2) 0 a p bs wb pd gw sm (by omega) hi9 hs hp0
  exact hlp22 (8) 0 a0 p1 bs1 wb1 pd1 gw1 sm1 (by omega) hi1 hs1 hp1
set_option maxRecDepth 100000 in
set_option maxHeartbeats 4000000 in
/-- YOUR PART -/
theorem whole_start {p : Program} {e : Env} {s : State} {m : MethodId} {below : List Frame} {meth : Method} {c : Code} (l : Launch) (hflags : l.flags = flags0) {b L : Nat} {xs : Nat → Int32} (hL : L ≤ 260) (C0 : lw_At p s m meth c b L xs) : W p l e room_1 s m #[Value.ref b] below meth c s.heap [] 0 0 (lw_Z below #[Value.ref b] s) (entryFrame m ([Value.ref b] : List Value).toArray 17) := by
  obtain ⟨hx, hcode, hret, hml, hown, hts, hX, hbl, hlk, hgv⟩ := C0
  have hw : ∀ w ∈ wsL_law, w.before #[Value.ref b] s = true := fun w h => hts w (wsL_law_in w h)
  obtain ⟨k0, i0, hk0⟩ := u_known (n := 2) hw inlX0 (hts (.instantiable RX0 2) (by decide +kernel))
  obtain ⟨k1, i1, hk1⟩ := u_known (n := 4) hw inlX1 (hts (.instantiable RX1 4) (by decide +kernel))
  obtain ⟨k2, i2, hk2⟩ := u_known (n := 14) hw inlX2 (hts (.instantiable RX2 14) (by decide +kernel))
  obtain ⟨k3, i3, hk3⟩ := u_known (n := 6) hw inlX3 (hts (.instantiable RX3 6) (by decide +kernel))
  obtain ⟨cI, hI1, hI2⟩ := z_arr (hts (.arrayClass .int) (by decide +kernel))
  obtain ⟨cZ, hZ1, hZ2⟩ := z_arr (hts (.arrayClass .boolean) (by decide +kernel))
  have hAO : zAO s := hts (.arrayOver (.array .int)) (by decide +kernel)
  obtain ⟨cR, cJ, kJ, hJ1, hJ2, hJ3, hJ4, hJ5⟩ := arrayOverA_spec hAO
  have hRI : cR = cI := Option.some.inj (hJ1.symm.trans hI2)
  subst hRI
  let g : zG := ((fun k => [k0, k1, k2, k3].getD k 0, fun k => [i0, i1, i2, i3].getD k i0), cR, cZ, cJ)
  have hK : zK g s := by
    refine ⟨⟨fun c9 r hc => ?_, fun k r hk => ?_⟩, fun w h => va_Nw.of (zNW_on w h) (hts w (zNW_in w h)), ⟨kJ, hJ3, hJ4⟩, hAO⟩
    · match c9, hc with
      | 0, hc => cases hc; exact hk0
      | 1, hc => cases hc; exact hk1
      | 2, hc => cases hc; exact hk2
      | 3, hc => cases hc; exact hk3
      | n + 4, hc => cases hc
    · match k, hk with
      | 0, hk => cases hk; exact ⟨hI1, hI2⟩
      | 1, hk => cases hk; exact ⟨hZ1, hZ2⟩
      | 2, hk => cases hk; exact ⟨fun n z => ⟨fun k h => (by cases h), kJ, hJ3, _, hJ4⟩, hJ5⟩
      | n + 3, hk => cases hk
  have C : zC g (p, e, s, m, #[Value.ref b], below, meth, c, fun q => s.heap.size ≤ q) cL_law RL wsL_law 17 (some .boolean) := ⟨hx, hcode, hml, hown, hw, hK, fun q h => h, hlk, hret⟩
  have hl := lv_entry [Value.ref b] (n := 17) (Nat.le_of_ble_eq_true rfl)
  rw [lg_entry_eq]
  refine law_body l g (p, e, s, m, #[Value.ref b], below, meth, c, fun q => s.heap.size ≤ q) (lw_Z below #[Value.ref b] s) C ⟨hX, hbl, Nat.not_le.mpr hbl, hL⟩ (fun W9 lv9 H locs ls hP hD hS hl => ?_) s.heap [] _ zP_nil zD_nil va_S.rf hl
  exact va_forget (fun r hr => hS.2.2 r hr) (lw_ret (d0 := s.drawn) (Drawn.sameBut.refl s.drawn lw_cs) hx hcode hret hlk dL_law_820)
