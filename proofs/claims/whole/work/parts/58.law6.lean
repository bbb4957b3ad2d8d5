section ZRS
variable {g : zG} {l : Launch} {R : Room} {E : zEnv} {Q : State → Prop} {nL cells slots : Nat} {ws ws' : va_W} {lv lv' : List (Nat × Value)} {st rest : List Value} {pc : Nat}
theorem zW.swap {a b c : va_W} (k : zW g l R E Q nL cells slots ((a ++ c) ++ b) lv st pc) : zW g l R E Q nL cells slots ((a ++ b) ++ c) lv st pc :=
  fun H locs ls hP hD hS hl => k H locs ls hP.swap hD.swap hS hl
end ZRS
theorem zP_nil {D : va_G} {cl : List vw_C} {H : Heap} : va_P D cl [] H := fun k r hk => by simp at hk
theorem zD_nil {A : Nat → Prop} : va_D A [] := ⟨fun i j r t hi => (by simp at hi), fun k r hk => by simp at hk⟩
theorem z_arr {ty : FieldType} {A : Array Value} {s : State} (h : (Cond.arrayClass ty).before A s = true) : ∃ cA : ClassId, ArrOfT s cA ty ∧ s.vm.findClass ("[" ++ ty.toString) = some cA := by
  obtain ⟨cA, kA, comp, h1, h2, h3⟩ := Cond.arrayClass_spec h
  exact ⟨cA, fun n z => ⟨fun k h => (by cases h), kA, h2, comp, h3⟩, h1⟩
theorem zNW_on : ∀ w ∈ zNW, w.onTables = true := by decide +kernel
theorem zNW_in : ∀ w ∈ zNW, w ∈ lw_tbl := by decide +kernel
theorem zDL_in : ∀ x ∈ zDL, Cond.declares x ∈ lw_tbl := by decide +kernel
theorem zSR_in : ∀ q ∈ zSR, Cond.stringRef "PastureBids" q.1 q.2 ∈ lw_tbl := by decide +kernel
set_option maxRecDepth 100000 in
set_option maxHeartbeats 4000000 in
theorem law_body (l : Launch) (hl9 : l.stackTraces = false) (g : zG) (E : zEnv) (Q : State → Prop) (C : zC g E cL_law RL wsL_law 9 (some .boolean)) (F : zFx (zA E) (zs E) (zs E).heap) {b L : Nat} {xs : Nat → Int32} (S : zSc E b L xs) (kend : ∀ (W : va_W) (lv : List (Nat × Value)), zW g l room_1 E Q 9 601024 7293034 W lv [.int (nI 1)] 1194) : zW g l room_1 E Q 9 0 0 [] [(0, .ref b)] [] 0 := by
  have hLs := S.2.2.2
  refine z_new C inlX2 tyX2 tyX2_ok (C.w 0 rfl) (C.w 1 rfl) (C.w 2 rfl) (ci := 2) rfl _ nwX2 (Nat.le_of_ble_eq_true rfl) (Nat.le_of_ble_eq_true rfl) dL_law_0 (fun n0 => ?_)
  refine z_dup C dL_law_3 rfl ?_
  refine z_callI (mc := 19) (ms := 129) C (c_X2_init l g n0) (cwI 0 C.ts gL_law_X2_init rfl rfl rfl (C.w 2 rfl) (C.w 7 rfl) (C.w 8 rfl) rfl (by decide +kernel) ⟨Nat.le_of_ble_eq_true rfl, Nat.le_of_ble_eq_true rfl⟩) rfl rfl (Nat.le_of_ble_eq_true rfl) dL_law_4 ⟨Nat.le_of_ble_eq_true rfl, Nat.le_of_ble_eq_true rfl⟩ ?_
  rintro _ _ ⟨rfl, q, e0, bs, wb, pd, gw, rfl, hs0⟩
  refine zW.eqst (st2 := [.ref (q 0)]) (by rw [e0]; rfl) ?_
  refine z_astore_n C dL_law_7 (by decide) [(1, .ref (q 0)), (0, .ref b)] rfl ?_
  refine z_new C inlX3 tyX3 tyX3_ok (C.w 3 rfl) (C.w 4 rfl) (C.w 5 rfl) (ci := 3) rfl _ nwX3 (Nat.le_of_ble_eq_true rfl) (Nat.le_of_ble_eq_true rfl) dL_law_8 (fun n8 => ?_)
  refine z_dup C dL_law_11 rfl ?_
  refine z_callI (mc := 6) (ms := 16452) C (zM.fr (c_X3_init l g n8) (wB g q zA0 (zG0 zA0) bs wb pd gw) []) (cwI 0 C.ts gL_law_X3_init rfl rfl rfl (C.w 5 rfl) (C.w 106 rfl) (C.w 107 rfl) rfl (by decide +kernel) ⟨Nat.le_of_ble_eq_true rfl, Nat.le_of_ble_eq_true rfl⟩) rfl rfl (Nat.le_of_ble_eq_true rfl) dL_law_12 ⟨Nat.le_of_ble_eq_true rfl, Nat.le_of_ble_eq_true rfl⟩ ?_
  rintro _ _ ⟨_, ⟨rfl, p, e1, la, pe, ga, sz, rfl, hz0⟩, rfl⟩
  refine zW.eqst (st2 := [.ref (p 0)]) (by rw [e1]; rfl) ?_
  refine zW.eqw (ws2 := wB g q zA0 (zG0 zA0) bs wb pd gw ++ wM g p 0 zA0 la pe ga sz) (List.append_nil _) ?_
  refine z_astore_n C dL_law_15 (by decide) [(2, .ref (p 0)), (1, .ref (q 0)), (0, .ref b)] rfl ?_
  refine z_iconst C (nI 1) dL_law_16 (by decide) ?_
  refine z_newaJ C (C.w 6 rfl) (n := 1) (by decide) (Nat.le_of_ble_eq_true rfl) (Nat.le_of_ble_eq_true rfl) dL_law_17 (fun qo => ?_)
  refine zW.swap ?_
  refine z_astore_n C dL_law_19 (by decide) [(3, .ref qo), (2, .ref (p 0)), (1, .ref (q 0)), (0, .ref b)] rfl ?_
  refine z_iconst C (nI 0) dL_law_20 (by decide) ?_
  refine z_istore C dL_law_21 (by decide) [(4, .int (nI 0)), (3, .ref qo), (2, .ref (p 0)), (1, .ref (q 0)), (0, .ref b)] rfl ?_
  refine zW.pick (lv' := [(0, .ref b), (1, .ref (q 0)), (2, .ref (p 0)), (3, .ref qo), (4, .int (nI 0))]) [4, 3, 2, 1, 0] rfl ?_
  exact law_loop l hl9 g E Q C F S q p qo kend 512 0 _ _ zA0 _ (by decide) (by omega) (Nat.le_of_ble_eq_true rfl) (Nat.le_of_ble_eq_true rfl) zInv_A0 ⟨bs, wb, pd, gw, _, 0, la, pe, ga, sz, rfl, hs0, hz0⟩
set_option maxRecDepth 100000 in
set_option maxHeartbeats 4000000 in
/-- YOUR PART -/
theorem whole_start {p : Program} {e : Env} {s : State} {m : MethodId} {below : List Frame} {meth : Method} {c : Code} (l : Launch) (hflags : l.flags = flags0) {b L : Nat} {xs : Nat → Int32} (hL : L ≤ 2048) (C0 : lw_At p s m meth c b L xs) : W p l e room_1 s m #[Value.ref b] below meth c s.heap [] 0 0 (lw_Z below #[Value.ref b] s) (entryFrame m ([Value.ref b] : List Value).toArray 9) := by
  obtain ⟨hx, hcode, hret, hml, hown, hts, hX, hbl, hlk, hgv⟩ := C0
  have hs9 := flat_of_before _ hgv
  have hl9 : l.stackTraces = false := by
    unfold Launch.stackTraces
    rw [hflags]
    decide +kernel
  have hw : ∀ w ∈ wsL_law, w.before #[Value.ref b] s = true := fun w h => hts w (wsL_law_in w h)
  obtain ⟨k0, i0, hk0⟩ := u_known (n := 2) hw inlX0 (hts (.instantiable RX0 2) (by decide +kernel))
  obtain ⟨k1, i1, hk1⟩ := u_known (n := 4) hw inlX1 (hts (.instantiable RX1 4) (by decide +kernel))
  obtain ⟨k2, i2, hk2⟩ := u_known (n := 14) hw inlX2 (hts (.instantiable RX2 14) (by decide +kernel))
  obtain ⟨k3, i3, hk3⟩ := u_known (n := 11) hw inlX3 (hts (.instantiable RX3 11) (by decide +kernel))
  obtain ⟨cI, hI1, hI2⟩ := z_arr (hts (.arrayClass .int) (by decide +kernel))
  obtain ⟨cZ, hZ1, hZ2⟩ := z_arr (hts (.arrayClass .boolean) (by decide +kernel))
  obtain ⟨cJ, hJ1, hJ2⟩ := z_arr (hts (.arrayClass .long) (by decide +kernel))
  let g : zG := ((fun k => [k0, k1, k2, k3].getD k 0, fun k => [i0, i1, i2, i3].getD k i0), cI, cZ, cJ)
  have hA : ∀ a : Nat, a < s.heap.size → ¬ s.heap.size ≤ a := fun a h => Nat.not_le.mpr h
  have hK : zK g s := by
    refine ⟨⟨fun c9 r hc => ?_, fun k r hk => ?_⟩, fun w h => va_Nw.of (zNW_on w h) (hts w (zNW_in w h)), fun r hr => ?_⟩
    · match c9, hc with
      | 0, hc => cases hc; exact hk0
      | 1, hc => cases hc; exact hk1
      | 2, hc => cases hc; exact hk2
      | 3, hc => cases hc; exact hk3
      | n + 4, hc => cases hc
    · match k, hk with
      | 0, hk => cases hk; exact ⟨hI1, hI2⟩
      | 1, hk => cases hk; exact ⟨hZ1, hZ2⟩
      | 2, hk => cases hk; exact ⟨hJ1, hJ2⟩
      | n + 3, hk => cases hk
    · have h2 : ∀ r ∈ zSR, (Cond.exactly (.string "PastureBids" r.1) "java/lang/String").before #[Value.ref b] s = true := by
        intro r hr
        refine hs9 _ ?_
        revert r
        decide +kernel
      obtain ⟨a, c9, cell, k9, h3, -⟩ := Cond.exactly_spec (h2 r hr)
      exact ⟨a, vk_R.of (hts _ (zSR_in r hr)) h3⟩
  have hF : zFx (fun q => s.heap.size ≤ q) s s.heap := by
    refine ⟨⟨vx_Zqof (hts _ (by decide +kernel)) (hts (.initialized Bundle.tN) (by decide +kernel)) (hs9 _ (by decide +kernel)) hA, vx_Zqof (hts _ (by decide +kernel)) (hts (.initialized Bundle.tN) (by decide +kernel)) (hs9 _ (by decide +kernel)) hA⟩, va_Nc.of (hs9 _ (by decide +kernel)), va_Nc.of (hs9 _ (by decide +kernel)), va_Nc.of (hs9 _ (by decide +kernel)), fun x h => va_Nw.of rfl (hts _ (zDL_in x h))⟩
  have C : zC g (p, e, s, m, #[Value.ref b], below, meth, c, fun q => s.heap.size ≤ q) cL_law RL wsL_law 9 (some .boolean) := ⟨hx, hcode, hml, hown, hw, hK, fun q h => h, hlk, hret⟩
  have hl := lv_entry [Value.ref b] (n := 9) (Nat.le_of_ble_eq_true rfl)
  rw [lg_entry_eq]
  refine law_body l hl9 g (p, e, s, m, #[Value.ref b], below, meth, c, fun q => s.heap.size ≤ q) (lw_Z below #[Value.ref b] s) C hF ⟨hX, hbl, Nat.not_le.mpr hbl, hL⟩ (fun W9 lv9 H locs ls hP hD hS hl => ?_) s.heap [] _ zP_nil zD_nil va_S.rf hl
  exact va_forget (fun r hr => hS.2.2 r hr) (lw_ret (d0 := s.drawn) (Drawn.sameBut.refl s.drawn lw_cs) hx hcode hret hlk dL_law_1194)
