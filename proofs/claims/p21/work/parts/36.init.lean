set_option maxRecDepth 100000 in
set_option maxHeartbeats 4000000 in
theorem c_X0_init  (l : Launch) (g : zG) (b : Nat) (w : va_W) : zM g l yX0_init wsX0_init { frames := 1, cells := 0, slots := 0, locals := 20 } [.ref b] (w) (zPv (w)) 0 0 := by
  refine zM.of (cc := cX0_init) (nL := 1) (ret := none) (lv := [(0, .ref b)]) (by decide) rfl (Nat.le_of_ble_eq_true rfl) rfl ?_
  intro E C0 hi
  have C : zC g E cX0_init RX0 wsX0_init 1 none := C0
  refine z_aload_n C dX0_init_0 0 rfl ?_
  refine z_objInit C (C.w 1 rfl) (C.w 2 rfl) (C.w 3 rfl) dX0_init_1 (Nat.le_of_ble_eq_true rfl) (Nat.le_of_ble_eq_true rfl) ?_
  exact z_vretP C dX0_init_4 rfl
theorem inX1_init_X0 : ∀ w ∈ wsX00, w ∈ wsX1_init := fun w h => List.mem_cons_of_mem _ (List.mem_append_left _ (List.mem_append_right _ (h)))
theorem inX1_init_X1 : ∀ w ∈ wsX10, w ∈ wsX1_init := fun w h => List.mem_cons_of_mem _ (List.mem_append_right _ (h))
set_option maxRecDepth 100000 in
set_option maxHeartbeats 4000000 in
theorem c_X1_init  (l : Launch) (g : zG) (b : Nat) : zM g l yX1_init wsX1_init { frames := 2, cells := 4, slots := 17, locals := 40 } [.ref b] ([(b, .inr (1, [.null, .null, .null, .null]))]) ((fun v w' => v = none ∧ ∃ p0 p1 p2 p3 : Nat, w' = [(b, .inr (1, [.ref p0, .ref p1, .ref p2, .ref p3])), (p0, .inr (0, [.int (nI 0), .int (nI 0)])), (p1, .inl (zI g, 5, .inl (fun _ => nI 0))), (p2, .inl (zI g, 5, .inl (fun _ => nI 0))), (p3, .inl (zI g, 5, .inl (fun _ => nI 0)))])) 4 17 := by
  refine zM.of (cc := cX1_init) (nL := 1) (ret := none) (lv := [(0, .ref b)]) (by decide) rfl (Nat.le_of_ble_eq_true rfl) rfl ?_
  intro E C0 hi
  have C : zC g E cX1_init RX1 wsX1_init 1 none := C0
  refine z_aload_n C dX1_init_0 0 rfl ?_
  refine z_objInit C (C.w 1 rfl) (C.w 2 rfl) (C.w 3 rfl) dX1_init_1 (Nat.le_of_ble_eq_true rfl) (Nat.le_of_ble_eq_true rfl) ?_
  refine z_aload_n C dX1_init_4 0 rfl ?_
  refine z_new C inX1_init_X0 tyX0 tyX0_ok (C.w 4 rfl) (C.w 5 rfl) (C.w 6 rfl) (ci := 0) rfl _ nwX0 (Nat.le_of_ble_eq_true rfl) (Nat.le_of_ble_eq_true rfl) dX1_init_5 (fun p5 => ?_)
  refine zW.eqw (ws2 := [(b, .inr (1, [.null, .null, .null, .null])), (p5, .inr (0, [.int (nI 0), .int (nI 0)]))]) rfl ?_
  refine z_dup C dX1_init_8 rfl ?_
  refine z_callIN C (c_X0_init l g p5 _) ⟨va_cnB 0 C.ts ggX1_init_X0_init rfl rfl rfl (C.K.2.1 _ (List.mem_of_getElem? (i := 7) rfl)) (C.w 6 rfl) (by decide +kernel) ⟨Nat.le_of_ble_eq_true rfl, Nat.le_of_ble_eq_true rfl⟩, rfl, (C.w 12 rfl)⟩ rfl rfl (Nat.le_of_ble_eq_true rfl) dX1_init_9 ⟨Nat.le_of_ble_eq_true rfl, Nat.le_of_ble_eq_true rfl⟩ ?_
  rintro _ _ ⟨rfl, rfl⟩
  refine z_putF C inX1_init_X1 tyX1_ok nmX1 0 rfl rfl 0 (by decide) (C.w 7 rfl) rfl (hi rfl) rfl (tyX1_ok 0 (by decide)) rfl rfl (Nat.le_of_ble_eq_true rfl) dX1_init_12 rfl ?_
  refine z_aload_n C dX1_init_15 0 rfl ?_
  refine z_iconst C (nI 5) dX1_init_16 (by decide) ?_
  refine z_newaI C (C.w 8 rfl) (n := 5) (by decide) (Nat.le_of_ble_eq_true rfl) (Nat.le_of_ble_eq_true rfl) dX1_init_17 (fun p17 => ?_)
  refine zW.eqw (ws2 := [(b, .inr (1, [.ref p5, .null, .null, .null])), (p5, .inr (0, [.int (nI 0), .int (nI 0)])), (p17, .inl (zI g, 5, .inl (fun _ => nI 0)))]) rfl ?_
  refine z_putF C inX1_init_X1 tyX1_ok nmX1 0 rfl rfl 1 (by decide) (C.w 9 rfl) rfl (hi rfl) rfl (tyX1_ok 1 (by decide)) rfl rfl (Nat.le_of_ble_eq_true rfl) dX1_init_19 rfl ?_
  refine z_aload_n C dX1_init_22 0 rfl ?_
  refine z_iconst C (nI 5) dX1_init_23 (by decide) ?_
  refine z_newaI C (C.w 8 rfl) (n := 5) (by decide) (Nat.le_of_ble_eq_true rfl) (Nat.le_of_ble_eq_true rfl) dX1_init_24 (fun p24 => ?_)
  refine zW.eqw (ws2 := [(b, .inr (1, [.ref p5, .ref p17, .null, .null])), (p5, .inr (0, [.int (nI 0), .int (nI 0)])), (p17, .inl (zI g, 5, .inl (fun _ => nI 0))), (p24, .inl (zI g, 5, .inl (fun _ => nI 0)))]) rfl ?_
  refine z_putF C inX1_init_X1 tyX1_ok nmX1 0 rfl rfl 2 (by decide) (C.w 10 rfl) rfl (hi rfl) rfl (tyX1_ok 2 (by decide)) rfl rfl (Nat.le_of_ble_eq_true rfl) dX1_init_26 rfl ?_
  refine z_aload_n C dX1_init_29 0 rfl ?_
  refine z_iconst C (nI 5) dX1_init_30 (by decide) ?_
  refine z_newaI C (C.w 8 rfl) (n := 5) (by decide) (Nat.le_of_ble_eq_true rfl) (Nat.le_of_ble_eq_true rfl) dX1_init_31 (fun p31 => ?_)
  refine zW.eqw (ws2 := [(b, .inr (1, [.ref p5, .ref p17, .ref p24, .null])), (p5, .inr (0, [.int (nI 0), .int (nI 0)])), (p17, .inl (zI g, 5, .inl (fun _ => nI 0))), (p24, .inl (zI g, 5, .inl (fun _ => nI 0))), (p31, .inl (zI g, 5, .inl (fun _ => nI 0)))]) rfl ?_
  refine z_putF C inX1_init_X1 tyX1_ok nmX1 0 rfl rfl 3 (by decide) (C.w 11 rfl) rfl (hi rfl) rfl (tyX1_ok 3 (by decide)) rfl rfl (Nat.le_of_ble_eq_true rfl) dX1_init_33 rfl ?_
  exact z_vret C dX1_init_36 ⟨rfl, _, _, _, _, rfl⟩
theorem inX2_init_X0 : ∀ w ∈ wsX00, w ∈ wsX2_init := fun w h => List.mem_cons_of_mem _ (List.mem_append_right _ (h))
theorem inX2_init_X1 : ∀ w ∈ wsX10, w ∈ wsX2_init := fun w h => List.mem_cons_of_mem _ (List.mem_append_left _ (List.mem_append_right _ (h)))
theorem inX2_init_X2 : ∀ w ∈ wsX20, w ∈ wsX2_init := fun w h => List.mem_cons_of_mem _ (List.mem_append_left _ (List.mem_append_left _ (List.mem_append_right _ (h))))
set_option maxRecDepth 100000 in
set_option maxHeartbeats 4000000 in
theorem c_X2_init  (l : Launch) (g : zG) (b : Nat) : zM g l yX2_init wsX2_init { frames := 30, cells := 19, slots := 129, locals := 798 } [.ref b] ([(b, .inr (2, [.null, .int (nI 0), .null, .int (nI 0), .null, .null, .null, .null, .null, .null, .int (nI 0), .null, .null, .null]))]) ((fun v w' => v = none ∧ ∃ q : Nat → Nat, q 0 = b ∧ zFace g q zA0 w')) 19 129 := by
  refine zM.of (cc := cX2_init) (nL := 1) (ret := none) (lv := [(0, .ref b)]) (by decide) rfl (Nat.le_of_ble_eq_true rfl) rfl ?_
  intro E C0 hi
  have C : zC g E cX2_init RX2 wsX2_init 1 none := C0
  refine z_aload_n C dX2_init_0 0 rfl ?_
  refine z_objInit C (C.w 1 rfl) (C.w 2 rfl) (C.w 3 rfl) dX2_init_1 (Nat.le_of_ble_eq_true rfl) (Nat.le_of_ble_eq_true rfl) ?_
  refine z_aload_n C dX2_init_4 0 rfl ?_
  refine z_bipush C (nI 8) dX2_init_5 (by decide) ?_
  refine z_newaI C (C.w 4 rfl) (n := 8) (by decide) (Nat.le_of_ble_eq_true rfl) (Nat.le_of_ble_eq_true rfl) dX2_init_7 (fun p7 => ?_)
  refine zW.eqw (ws2 := [(b, .inr (2, [.null, .int (nI 0), .null, .int (nI 0), .null, .null, .null, .null, .null, .null, .int (nI 0), .null, .null, .null])), (p7, .inl (zI g, 8, .inl (fun _ => nI 0)))]) rfl ?_
  refine z_putF C inX2_init_X2 tyX2_ok nmX2 0 rfl rfl 0 (by decide) (C.w 5 rfl) rfl (hi rfl) rfl (tyX2_ok 0 (by decide)) rfl rfl (Nat.le_of_ble_eq_true rfl) dX2_init_9 rfl ?_
  refine z_aload_n C dX2_init_12 0 rfl ?_
  refine z_iconst C (nI 5) dX2_init_13 (by decide) ?_
  refine z_newaZ C (C.w 6 rfl) (n := 5) (by decide) (Nat.le_of_ble_eq_true rfl) (Nat.le_of_ble_eq_true rfl) dX2_init_14 (fun p14 => ?_)
  refine zW.eqw (ws2 := [(b, .inr (2, [.ref p7, .int (nI 0), .null, .int (nI 0), .null, .null, .null, .null, .null, .null, .int (nI 0), .null, .null, .null])), (p7, .inl (zI g, 8, .inl (fun _ => nI 0))), (p14, .inl (zZ g, 5, .inl (fun _ => nI 0)))]) rfl ?_
  refine z_putF C inX2_init_X2 tyX2_ok nmX2 0 rfl rfl 2 (by decide) (C.w 7 rfl) rfl (hi rfl) rfl (tyX2_ok 2 (by decide)) rfl rfl (Nat.le_of_ble_eq_true rfl) dX2_init_16 rfl ?_
  refine z_aload_n C dX2_init_19 0 rfl ?_
  refine z_bipush C (nI 12) dX2_init_20 (by decide) ?_
  refine z_newaI C (C.w 4 rfl) (n := 12) (by decide) (Nat.le_of_ble_eq_true rfl) (Nat.le_of_ble_eq_true rfl) dX2_init_22 (fun p22 => ?_)
  refine zW.eqw (ws2 := [(b, .inr (2, [.ref p7, .int (nI 0), .ref p14, .int (nI 0), .null, .null, .null, .null, .null, .null, .int (nI 0), .null, .null, .null])), (p7, .inl (zI g, 8, .inl (fun _ => nI 0))), (p14, .inl (zZ g, 5, .inl (fun _ => nI 0))), (p22, .inl (zI g, 12, .inl (fun _ => nI 0)))]) rfl ?_
  refine z_putF C inX2_init_X2 tyX2_ok nmX2 0 rfl rfl 4 (by decide) (C.w 8 rfl) rfl (hi rfl) rfl (tyX2_ok 4 (by decide)) rfl rfl (Nat.le_of_ble_eq_true rfl) dX2_init_24 rfl ?_
  refine z_aload_n C dX2_init_27 0 rfl ?_
  refine z_bipush C (nI 12) dX2_init_28 (by decide) ?_
  refine z_newaI C (C.w 4 rfl) (n := 12) (by decide) (Nat.le_of_ble_eq_true rfl) (Nat.le_of_ble_eq_true rfl) dX2_init_30 (fun p30 => ?_)
  refine zW.eqw (ws2 := [(b, .inr (2, [.ref p7, .int (nI 0), .ref p14, .int (nI 0), .ref p22, .null, .null, .null, .null, .null, .int (nI 0), .null, .null, .null])), (p7, .inl (zI g, 8, .inl (fun _ => nI 0))), (p14, .inl (zZ g, 5, .inl (fun _ => nI 0))), (p22, .inl (zI g, 12, .inl (fun _ => nI 0))), (p30, .inl (zI g, 12, .inl (fun _ => nI 0)))]) rfl ?_
  refine z_putF C inX2_init_X2 tyX2_ok nmX2 0 rfl rfl 5 (by decide) (C.w 9 rfl) rfl (hi rfl) rfl (tyX2_ok 5 (by decide)) rfl rfl (Nat.le_of_ble_eq_true rfl) dX2_init_32 rfl ?_
  refine z_aload_n C dX2_init_35 0 rfl ?_
  refine z_bipush C (nI 12) dX2_init_36 (by decide) ?_
  refine z_newaI C (C.w 4 rfl) (n := 12) (by decide) (Nat.le_of_ble_eq_true rfl) (Nat.le_of_ble_eq_true rfl) dX2_init_38 (fun p38 => ?_)
  refine zW.eqw (ws2 := [(b, .inr (2, [.ref p7, .int (nI 0), .ref p14, .int (nI 0), .ref p22, .ref p30, .null, .null, .null, .null, .int (nI 0), .null, .null, .null])), (p7, .inl (zI g, 8, .inl (fun _ => nI 0))), (p14, .inl (zZ g, 5, .inl (fun _ => nI 0))), (p22, .inl (zI g, 12, .inl (fun _ => nI 0))), (p30, .inl (zI g, 12, .inl (fun _ => nI 0))), (p38, .inl (zI g, 12, .inl (fun _ => nI 0)))]) rfl ?_
  refine z_putF C inX2_init_X2 tyX2_ok nmX2 0 rfl rfl 6 (by decide) (C.w 10 rfl) rfl (hi rfl) rfl (tyX2_ok 6 (by decide)) rfl rfl (Nat.le_of_ble_eq_true rfl) dX2_init_40 rfl ?_
  refine z_aload_n C dX2_init_43 0 rfl ?_
  refine z_bipush C (nI 12) dX2_init_44 (by decide) ?_
  refine z_newaI C (C.w 4 rfl) (n := 12) (by decide) (Nat.le_of_ble_eq_true rfl) (Nat.le_of_ble_eq_true rfl) dX2_init_46 (fun p46 => ?_)
  refine zW.eqw (ws2 := [(b, .inr (2, [.ref p7, .int (nI 0), .ref p14, .int (nI 0), .ref p22, .ref p30, .ref p38, .null, .null, .null, .int (nI 0), .null, .null, .null])), (p7, .inl (zI g, 8, .inl (fun _ => nI 0))), (p14, .inl (zZ g, 5, .inl (fun _ => nI 0))), (p22, .inl (zI g, 12, .inl (fun _ => nI 0))), (p30, .inl (zI g, 12, .inl (fun _ => nI 0))), (p38, .inl (zI g, 12, .inl (fun _ => nI 0))), (p46, .inl (zI g, 12, .inl (fun _ => nI 0)))]) rfl ?_
  refine z_putF C inX2_init_X2 tyX2_ok nmX2 0 rfl rfl 7 (by decide) (C.w 11 rfl) rfl (hi rfl) rfl (tyX2_ok 7 (by decide)) rfl rfl (Nat.le_of_ble_eq_true rfl) dX2_init_48 rfl ?_
  refine z_aload_n C dX2_init_51 0 rfl ?_
  refine z_bipush C (nI 12) dX2_init_52 (by decide) ?_
  refine z_newaI C (C.w 4 rfl) (n := 12) (by decide) (Nat.le_of_ble_eq_true rfl) (Nat.le_of_ble_eq_true rfl) dX2_init_54 (fun p54 => ?_)
  refine zW.eqw (ws2 := [(b, .inr (2, [.ref p7, .int (nI 0), .ref p14, .int (nI 0), .ref p22, .ref p30, .ref p38, .ref p46, .null, .null, .int (nI 0), .null, .null, .null])), (p7, .inl (zI g, 8, .inl (fun _ => nI 0))), (p14, .inl (zZ g, 5, .inl (fun _ => nI 0))), (p22, .inl (zI g, 12, .inl (fun _ => nI 0))), (p30, .inl (zI g, 12, .inl (fun _ => nI 0))), (p38, .inl (zI g, 12, .inl (fun _ => nI 0))), (p46, .inl (zI g, 12, .inl (fun _ => nI 0))), (p54, .inl (zI g, 12, .inl (fun _ => nI 0)))]) rfl ?_
  refine z_putF C inX2_init_X2 tyX2_ok nmX2 0 rfl rfl 8 (by decide) (C.w 12 rfl) rfl (hi rfl) rfl (tyX2_ok 8 (by decide)) rfl rfl (Nat.le_of_ble_eq_true rfl) dX2_init_56 rfl ?_
  refine z_aload_n C dX2_init_59 0 rfl ?_
  refine z_bipush C (nI 12) dX2_init_60 (by decide) ?_
  refine z_newaZ C (C.w 6 rfl) (n := 12) (by decide) (Nat.le_of_ble_eq_true rfl) (Nat.le_of_ble_eq_true rfl) dX2_init_62 (fun p62 => ?_)
  refine zW.eqw (ws2 := [(b, .inr (2, [.ref p7, .int (nI 0), .ref p14, .int (nI 0), .ref p22, .ref p30, .ref p38, .ref p46, .ref p54, .null, .int (nI 0), .null, .null, .null])), (p7, .inl (zI g, 8, .inl (fun _ => nI 0))), (p14, .inl (zZ g, 5, .inl (fun _ => nI 0))), (p22, .inl (zI g, 12, .inl (fun _ => nI 0))), (p30, .inl (zI g, 12, .inl (fun _ => nI 0))), (p38, .inl (zI g, 12, .inl (fun _ => nI 0))), (p46, .inl (zI g, 12, .inl (fun _ => nI 0))), (p54, .inl (zI g, 12, .inl (fun _ => nI 0))), (p62, .inl (zZ g, 12, .inl (fun _ => nI 0)))]) rfl ?_
  refine z_putF C inX2_init_X2 tyX2_ok nmX2 0 rfl rfl 9 (by decide) (C.w 13 rfl) rfl (hi rfl) rfl (tyX2_ok 9 (by decide)) rfl rfl (Nat.le_of_ble_eq_true rfl) dX2_init_64 rfl ?_
  refine z_aload_n C dX2_init_67 0 rfl ?_
  refine z_new C inX2_init_X1 tyX1 tyX1_ok (C.w 14 rfl) (C.w 15 rfl) (C.w 16 rfl) (ci := 1) rfl _ nwX1 (Nat.le_of_ble_eq_true rfl) (Nat.le_of_ble_eq_true rfl) dX2_init_68 (fun p68 => ?_)
  refine zW.eqw (ws2 := [(b, .inr (2, [.ref p7, .int (nI 0), .ref p14, .int (nI 0), .ref p22, .ref p30, .ref p38, .ref p46, .ref p54, .ref p62, .int (nI 0), .null, .null, .null])), (p7, .inl (zI g, 8, .inl (fun _ => nI 0))), (p14, .inl (zZ g, 5, .inl (fun _ => nI 0))), (p22, .inl (zI g, 12, .inl (fun _ => nI 0))), (p30, .inl (zI g, 12, .inl (fun _ => nI 0))), (p38, .inl (zI g, 12, .inl (fun _ => nI 0))), (p46, .inl (zI g, 12, .inl (fun _ => nI 0))), (p54, .inl (zI g, 12, .inl (fun _ => nI 0))), (p62, .inl (zZ g, 12, .inl (fun _ => nI 0))), (p68, .inr (1, [.null, .null, .null, .null]))]) rfl ?_
  refine z_dup C dX2_init_71 rfl ?_
  refine z_callIN C (zM.fr (c_X1_init l g p68) [(b, .inr (2, [.ref p7, .int (nI 0), .ref p14, .int (nI 0), .ref p22, .ref p30, .ref p38, .ref p46, .ref p54, .ref p62, .int (nI 0), .null, .null, .null])), (p7, .inl (zI g, 8, .inl (fun _ => nI 0))), (p14, .inl (zZ g, 5, .inl (fun _ => nI 0))), (p22, .inl (zI g, 12, .inl (fun _ => nI 0))), (p30, .inl (zI g, 12, .inl (fun _ => nI 0))), (p38, .inl (zI g, 12, .inl (fun _ => nI 0))), (p46, .inl (zI g, 12, .inl (fun _ => nI 0))), (p54, .inl (zI g, 12, .inl (fun _ => nI 0))), (p62, .inl (zZ g, 12, .inl (fun _ => nI 0)))] []) ⟨va_cnB 0 C.ts ggX2_init_X1_init rfl rfl rfl (C.K.2.1 _ (List.mem_of_getElem? (i := 6) rfl)) (C.w 16 rfl) (by decide +kernel) ⟨Nat.le_of_ble_eq_true rfl, Nat.le_of_ble_eq_true rfl⟩, rfl, (C.w 23 rfl)⟩ rfl rfl (Nat.le_of_ble_eq_true rfl) dX2_init_72 ⟨Nat.le_of_ble_eq_true rfl, Nat.le_of_ble_eq_true rfl⟩ ?_
  rintro _ _ ⟨_, ⟨rfl, p72a, p72b, p72c, p72d, rfl⟩, rfl⟩
  refine zW.eqw (ws2 := [(b, .inr (2, [.ref p7, .int (nI 0), .ref p14, .int (nI 0), .ref p22, .ref p30, .ref p38, .ref p46, .ref p54, .ref p62, .int (nI 0), .null, .null, .null])), (p7, .inl (zI g, 8, .inl (fun _ => nI 0))), (p14, .inl (zZ g, 5, .inl (fun _ => nI 0))), (p22, .inl (zI g, 12, .inl (fun _ => nI 0))), (p30, .inl (zI g, 12, .inl (fun _ => nI 0))), (p38, .inl (zI g, 12, .inl (fun _ => nI 0))), (p46, .inl (zI g, 12, .inl (fun _ => nI 0))), (p54, .inl (zI g, 12, .inl (fun _ => nI 0))), (p62, .inl (zZ g, 12, .inl (fun _ => nI 0))), (p68, .inr (1, [.ref p72a, .ref p72b, .ref p72c, .ref p72d])), (p72a, .inr (0, [.int (nI 0), .int (nI 0)])), (p72b, .inl (zI g, 5, .inl (fun _ => nI 0))), (p72c, .inl (zI g, 5, .inl (fun _ => nI 0))), (p72d, .inl (zI g, 5, .inl (fun _ => nI 0)))]) rfl ?_
  refine z_putF C inX2_init_X2 tyX2_ok nmX2 0 rfl rfl 11 (by decide) (C.w 17 rfl) rfl (hi rfl) rfl (tyX2_ok 11 (by decide)) rfl rfl (Nat.le_of_ble_eq_true rfl) dX2_init_75 rfl ?_
  refine z_aload_n C dX2_init_78 0 rfl ?_
  refine z_new C inX2_init_X1 tyX1 tyX1_ok (C.w 14 rfl) (C.w 15 rfl) (C.w 16 rfl) (ci := 1) rfl _ nwX1 (Nat.le_of_ble_eq_true rfl) (Nat.le_of_ble_eq_true rfl) dX2_init_79 (fun p79 => ?_)
  refine zW.eqw (ws2 := [(b, .inr (2, [.ref p7, .int (nI 0), .ref p14, .int (nI 0), .ref p22, .ref p30, .ref p38, .ref p46, .ref p54, .ref p62, .int (nI 0), .ref p68, .null, .null])), (p7, .inl (zI g, 8, .inl (fun _ => nI 0))), (p14, .inl (zZ g, 5, .inl (fun _ => nI 0))), (p22, .inl (zI g, 12, .inl (fun _ => nI 0))), (p30, .inl (zI g, 12, .inl (fun _ => nI 0))), (p38, .inl (zI g, 12, .inl (fun _ => nI 0))), (p46, .inl (zI g, 12, .inl (fun _ => nI 0))), (p54, .inl (zI g, 12, .inl (fun _ => nI 0))), (p62, .inl (zZ g, 12, .inl (fun _ => nI 0))), (p68, .inr (1, [.ref p72a, .ref p72b, .ref p72c, .ref p72d])), (p72a, .inr (0, [.int (nI 0), .int (nI 0)])), (p72b, .inl (zI g, 5, .inl (fun _ => nI 0))), (p72c, .inl (zI g, 5, .inl (fun _ => nI 0))), (p72d, .inl (zI g, 5, .inl (fun _ => nI 0))), (p79, .inr (1, [.null, .null, .null, .null]))]) rfl ?_
  refine z_dup C dX2_init_82 rfl ?_
  refine z_callIN C (zM.fr (c_X1_init l g p79) [(b, .inr (2, [.ref p7, .int (nI 0), .ref p14, .int (nI 0), .ref p22, .ref p30, .ref p38, .ref p46, .ref p54, .ref p62, .int (nI 0), .ref p68, .null, .null])), (p7, .inl (zI g, 8, .inl (fun _ => nI 0))), (p14, .inl (zZ g, 5, .inl (fun _ => nI 0))), (p22, .inl (zI g, 12, .inl (fun _ => nI 0))), (p30, .inl (zI g, 12, .inl (fun _ => nI 0))), (p38, .inl (zI g, 12, .inl (fun _ => nI 0))), (p46, .inl (zI g, 12, .inl (fun _ => nI 0))), (p54, .inl (zI g, 12, .inl (fun _ => nI 0))), (p62, .inl (zZ g, 12, .inl (fun _ => nI 0))), (p68, .inr (1, [.ref p72a, .ref p72b, .ref p72c, .ref p72d])), (p72a, .inr (0, [.int (nI 0), .int (nI 0)])), (p72b, .inl (zI g, 5, .inl (fun _ => nI 0))), (p72c, .inl (zI g, 5, .inl (fun _ => nI 0))), (p72d, .inl (zI g, 5, .inl (fun _ => nI 0)))] []) ⟨va_cnB 0 C.ts ggX2_init_X1_init rfl rfl rfl (C.K.2.1 _ (List.mem_of_getElem? (i := 6) rfl)) (C.w 16 rfl) (by decide +kernel) ⟨Nat.le_of_ble_eq_true rfl, Nat.le_of_ble_eq_true rfl⟩, rfl, (C.w 23 rfl)⟩ rfl rfl (Nat.le_of_ble_eq_true rfl) dX2_init_83 ⟨Nat.le_of_ble_eq_true rfl, Nat.le_of_ble_eq_true rfl⟩ ?_
  rintro _ _ ⟨_, ⟨rfl, p83a, p83b, p83c, p83d, rfl⟩, rfl⟩
  refine zW.eqw (ws2 := [(b, .inr (2, [.ref p7, .int (nI 0), .ref p14, .int (nI 0), .ref p22, .ref p30, .ref p38, .ref p46, .ref p54, .ref p62, .int (nI 0), .ref p68, .null, .null])), (p7, .inl (zI g, 8, .inl (fun _ => nI 0))), (p14, .inl (zZ g, 5, .inl (fun _ => nI 0))), (p22, .inl (zI g, 12, .inl (fun _ => nI 0))), (p30, .inl (zI g, 12, .inl (fun _ => nI 0))), (p38, .inl (zI g, 12, .inl (fun _ => nI 0))), (p46, .inl (zI g, 12, .inl (fun _ => nI 0))), (p54, .inl (zI g, 12, .inl (fun _ => nI 0))), (p62, .inl (zZ g, 12, .inl (fun _ => nI 0))), (p68, .inr (1, [.ref p72a, .ref p72b, .ref p72c, .ref p72d])), (p72a, .inr (0, [.int (nI 0), .int (nI 0)])), (p72b, .inl (zI g, 5, .inl (fun _ => nI 0))), (p72c, .inl (zI g, 5, .inl (fun _ => nI 0))), (p72d, .inl (zI g, 5, .inl (fun _ => nI 0))), (p79, .inr (1, [.ref p83a, .ref p83b, .ref p83c, .ref p83d])), (p83a, .inr (0, [.int (nI 0), .int (nI 0)])), (p83b, .inl (zI g, 5, .inl (fun _ => nI 0))), (p83c, .inl (zI g, 5, .inl (fun _ => nI 0))), (p83d, .inl (zI g, 5, .inl (fun _ => nI 0)))]) rfl ?_
  refine z_putF C inX2_init_X2 tyX2_ok nmX2 0 rfl rfl 12 (by decide) (C.w 18 rfl) rfl (hi rfl) rfl (tyX2_ok 12 (by decide)) rfl rfl (Nat.le_of_ble_eq_true rfl) dX2_init_86 rfl ?_
  refine z_aload_n C dX2_init_89 0 rfl ?_
  refine z_new C inX2_init_X0 tyX0 tyX0_ok (C.w 19 rfl) (C.w 20 rfl) (C.w 21 rfl) (ci := 0) rfl _ nwX0 (Nat.le_of_ble_eq_true rfl) (Nat.le_of_ble_eq_true rfl) dX2_init_90 (fun p90 => ?_)
  refine zW.eqw (ws2 := [(b, .inr (2, [.ref p7, .int (nI 0), .ref p14, .int (nI 0), .ref p22, .ref p30, .ref p38, .ref p46, .ref p54, .ref p62, .int (nI 0), .ref p68, .ref p79, .null])), (p7, .inl (zI g, 8, .inl (fun _ => nI 0))), (p14, .inl (zZ g, 5, .inl (fun _ => nI 0))), (p22, .inl (zI g, 12, .inl (fun _ => nI 0))), (p30, .inl (zI g, 12, .inl (fun _ => nI 0))), (p38, .inl (zI g, 12, .inl (fun _ => nI 0))), (p46, .inl (zI g, 12, .inl (fun _ => nI 0))), (p54, .inl (zI g, 12, .inl (fun _ => nI 0))), (p62, .inl (zZ g, 12, .inl (fun _ => nI 0))), (p68, .inr (1, [.ref p72a, .ref p72b, .ref p72c, .ref p72d])), (p72a, .inr (0, [.int (nI 0), .int (nI 0)])), (p72b, .inl (zI g, 5, .inl (fun _ => nI 0))), (p72c, .inl (zI g, 5, .inl (fun _ => nI 0))), (p72d, .inl (zI g, 5, .inl (fun _ => nI 0))), (p79, .inr (1, [.ref p83a, .ref p83b, .ref p83c, .ref p83d])), (p83a, .inr (0, [.int (nI 0), .int (nI 0)])), (p83b, .inl (zI g, 5, .inl (fun _ => nI 0))), (p83c, .inl (zI g, 5, .inl (fun _ => nI 0))), (p83d, .inl (zI g, 5, .inl (fun _ => nI 0))), (p90, .inr (0, [.int (nI 0), .int (nI 0)]))]) rfl ?_
  refine z_dup C dX2_init_93 rfl ?_
  refine z_callIN C (c_X0_init l g p90 _) ⟨va_cnB 0 C.ts ggX2_init_X0_init rfl rfl rfl (C.K.2.1 _ (List.mem_of_getElem? (i := 8) rfl)) (C.w 21 rfl) (by decide +kernel) ⟨Nat.le_of_ble_eq_true rfl, Nat.le_of_ble_eq_true rfl⟩, rfl, (C.w 31 rfl)⟩ rfl rfl (Nat.le_of_ble_eq_true rfl) dX2_init_94 ⟨Nat.le_of_ble_eq_true rfl, Nat.le_of_ble_eq_true rfl⟩ ?_
  rintro _ _ ⟨rfl, rfl⟩
  refine z_putF C inX2_init_X2 tyX2_ok nmX2 0 rfl rfl 13 (by decide) (C.w 22 rfl) rfl (hi rfl) rfl (tyX2_ok 13 (by decide)) rfl rfl (Nat.le_of_ble_eq_true rfl) dX2_init_97 rfl ?_
  refine zW.perm [0, 1, 2, 3, 4, 5, 6, 7, 8, 10, 15, 19, 9, 14, 11, 16, 12, 17, 13, 18] ([(b, .inr (2, [.ref p7, .int (nI 0), .ref p14, .int (nI 0), .ref p22, .ref p30, .ref p38, .ref p46, .ref p54, .ref p62, .int (nI 0), .ref p68, .ref p79, .ref p90])), (p7, .inl (zI g, 8, .inl (fun _ => nI 0))), (p14, .inl (zZ g, 5, .inl (fun _ => nI 0))), (p22, .inl (zI g, 12, .inl (fun _ => nI 0))), (p30, .inl (zI g, 12, .inl (fun _ => nI 0))), (p38, .inl (zI g, 12, .inl (fun _ => nI 0))), (p46, .inl (zI g, 12, .inl (fun _ => nI 0))), (p54, .inl (zI g, 12, .inl (fun _ => nI 0))), (p62, .inl (zZ g, 12, .inl (fun _ => nI 0))), (p72a, .inr (0, [.int (nI 0), .int (nI 0)])), (p83a, .inr (0, [.int (nI 0), .int (nI 0)])), (p90, .inr (0, [.int (nI 0), .int (nI 0)])), (p68, .inr (1, [.ref p72a, .ref p72b, .ref p72c, .ref p72d])), (p79, .inr (1, [.ref p83a, .ref p83b, .ref p83c, .ref p83d])), (p72b, .inl (zI g, 5, .inl (fun _ => nI 0))), (p83b, .inl (zI g, 5, .inl (fun _ => nI 0))), (p72c, .inl (zI g, 5, .inl (fun _ => nI 0))), (p83c, .inl (zI g, 5, .inl (fun _ => nI 0))), (p72d, .inl (zI g, 5, .inl (fun _ => nI 0))), (p83d, .inl (zI g, 5, .inl (fun _ => nI 0)))]) (by decide) rfl rfl ?_
  obtain ⟨q, e0, e12, ew⟩ := wB_new g b p7 p14 p22 p30 p38 p46 p54 p62 p72a p83a p90 p68 p79 p72b p83b p72c p83c p72d p83d
  refine zW.eqw ew ?_
  refine zW.lve (lv' := [(0, .ref (q 0))]) (by rw [e0]) ?_
  have ha := zInv_A0.1
  refine z_aload_n C dX2_init_100 0 rfl ?_
  refine z_aload_n C dX2_init_101 0 rfl ?_
  refine z_get C inX2_init_X2 0 wB_o rfl 11 (by decide) (C.w 17 rfl) rfl dX2_init_102 ?_
  refine z_iconst C (nI 0) dX2_init_105 (by decide) ?_
  refine z_callV C (c_X2_settle l g q zA0 (fun _ => (0, 0)) (fun _ _ => 0) (fun _ _ => 0) (fun _ _ => 0) 0 ha (by decide) 0) (cwV 2 C.ts gX2_init_X2_settle rfl rfl rfl (by decide +kernel) ⟨Nat.le_of_ble_eq_true rfl, Nat.le_of_ble_eq_true rfl⟩) wB_o rfl rfl rfl (Nat.le_of_ble_eq_true rfl) dX2_init_106 ⟨Nat.le_of_ble_eq_true rfl, Nat.le_of_ble_eq_true rfl⟩ (z_e ?_)
  rintro _ ⟨bs2, wb2, pd2, gw2, rfl, hs2, hk2⟩
  exact z_vret C dX2_init_109 ⟨rfl, q, e0, _, _, _, _, rfl, hs2⟩
theorem wS_new (g : zG) (b p1 p2 p3 : Nat) : ∃ q : Nat → Nat, q 0 = b ∧ ([(b, .inr (3, [.ref p1, .ref p2, .ref p3, .int (nI 0), .int (nI 0), .int (nI 0)])), (p1, .inl (zI g, 0, .inl (fun _ => nI 0))), (p2, .inl (zZ g, 0, .inl (fun _ => nI 0))), (p3, .inl (zJ g, 0, .inr (.inr (.inr (.inr (fun _ => none))))))] : va_W) = wS g q zA0 (0, 0, 0) := by
  refine ⟨fun k => [b, p1, p2, p3].getD k 0, rfl, ?_⟩
  unfold wS
  rw [zIn_A0]
  rfl
theorem inX3_init_X3 : ∀ w ∈ wsX30, w ∈ wsX3_init := fun w h => List.mem_cons_of_mem _ (List.mem_append_right _ (h))
set_option maxRecDepth 100000 in
set_option maxHeartbeats 4000000 in
theorem c_X3_init  (l : Launch) (g : zG) (b : Nat) : zM g l yX3_init wsX3_init { frames := 1, cells := 3, slots := 0, locals := 20 } [.ref b] ([(b, .inr (3, [.null, .null, .null, .int (nI 0), .int (nI 0), .int (nI 0)]))]) ((fun v w' => v = none ∧ ∃ q : Nat → Nat, q 0 = b ∧ w' = wS g q zA0 (0, 0, 0))) 3 0 := by
  refine zM.of (cc := cX3_init) (nL := 1) (ret := none) (lv := [(0, .ref b)]) (by decide) rfl (Nat.le_of_ble_eq_true rfl) rfl ?_
  intro E C0 hi
  have C : zC g E cX3_init RX3 wsX3_init 1 none := C0
  refine z_aload_n C dX3_init_0 0 rfl ?_
  refine z_objInit C (C.w 1 rfl) (C.w 2 rfl) (C.w 3 rfl) dX3_init_1 (Nat.le_of_ble_eq_true rfl) (Nat.le_of_ble_eq_true rfl) ?_
  refine z_aload_n C dX3_init_4 0 rfl ?_
  refine z_iconst C (nI 0) dX3_init_5 (by decide) ?_
  refine z_newaI C (C.w 4 rfl) (n := 0) (by decide) (Nat.le_of_ble_eq_true rfl) (Nat.le_of_ble_eq_true rfl) dX3_init_6 (fun p6 => ?_)
  refine zW.eqw (ws2 := [(b, .inr (3, [.null, .null, .null, .int (nI 0), .int (nI 0), .int (nI 0)])), (p6, .inl (zI g, 0, .inl (fun _ => nI 0)))]) rfl ?_
  refine z_put C inX3_init_X3 tyX3_ok nmX3 0 rfl rfl 0 (by decide) (C.w 5 rfl) rfl (tyX3_ok 0 (by decide)) rfl rfl (Nat.le_of_ble_eq_true rfl) dX3_init_8 rfl ?_
  refine z_aload_n C dX3_init_11 0 rfl ?_
  refine z_iconst C (nI 0) dX3_init_12 (by decide) ?_
  refine z_newaZ C (C.w 6 rfl) (n := 0) (by decide) (Nat.le_of_ble_eq_true rfl) (Nat.le_of_ble_eq_true rfl) dX3_init_13 (fun p13 => ?_)
  refine zW.eqw (ws2 := [(b, .inr (3, [.ref p6, .null, .null, .int (nI 0), .int (nI 0), .int (nI 0)])), (p6, .inl (zI g, 0, .inl (fun _ => nI 0))), (p13, .inl (zZ g, 0, .inl (fun _ => nI 0)))]) rfl ?_
  refine z_put C inX3_init_X3 tyX3_ok nmX3 0 rfl rfl 1 (by decide) (C.w 7 rfl) rfl (tyX3_ok 1 (by decide)) rfl rfl (Nat.le_of_ble_eq_true rfl) dX3_init_15 rfl ?_
  refine z_aload_n C dX3_init_18 0 rfl ?_
  refine z_iconst C (nI 0) dX3_init_19 (by decide) ?_
  refine z_newaR C (C.w 8 rfl) (n := 0) (by decide) (Nat.le_of_ble_eq_true rfl) (Nat.le_of_ble_eq_true rfl) dX3_init_20 (fun p20 => ?_)
  refine zW.eqw (ws2 := [(b, .inr (3, [.ref p6, .ref p13, .null, .int (nI 0), .int (nI 0), .int (nI 0)])), (p6, .inl (zI g, 0, .inl (fun _ => nI 0))), (p13, .inl (zZ g, 0, .inl (fun _ => nI 0))), (p20, .inl (zJ g, 0, .inr (.inr (.inr (.inr (fun _ => none))))))]) rfl ?_
  refine z_put C inX3_init_X3 tyX3_ok nmX3 0 rfl rfl 2 (by decide) (C.w 9 rfl) rfl (tyX3_ok 2 (by decide)) rfl rfl (Nat.le_of_ble_eq_true rfl) dX3_init_23 rfl ?_
  obtain ⟨q, e0, ew⟩ := wS_new g b p6 p13 p20
  refine zW.eqw ew ?_
  exact z_vret C dX3_init_26 ⟨rfl, q, e0, rfl⟩
