theorem zth_n68 : ∀ w ∈ (vx_atS "PastureBids" 68 zISE ["java/lang/RuntimeException", "java/lang/Exception"]).filter (fun w => !goodWord w), w ∈ [Cond.castable zISE zISE, .declares (Bundle.initS "java/lang/RuntimeException"), .declares (Bundle.initS "java/lang/Exception"), .declares (Bundle.initS Bundle.tN)] := by decide +kernel
theorem zth_g68 : ∀ w ∈ Cond.classLink "PastureBids" 64 zISE :: Cond.initialized zISE :: vx_atS "PastureBids" 68 zISE ["java/lang/RuntimeException", "java/lang/Exception"], vx_ot w = true := by decide +kernel
theorem zth_n221 : ∀ w ∈ (vx_atS "PastureBids" 221 zIAE ["java/lang/RuntimeException", "java/lang/Exception"]).filter (fun w => !goodWord w), w ∈ [Cond.castable zIAE zIAE, .declares (Bundle.initS "java/lang/RuntimeException"), .declares (Bundle.initS "java/lang/Exception"), .declares (Bundle.initS Bundle.tN)] := by decide +kernel
theorem zth_g221 : ∀ w ∈ Cond.classLink "PastureBids" 217 zIAE :: Cond.initialized zIAE :: vx_atS "PastureBids" 221 zIAE ["java/lang/RuntimeException", "java/lang/Exception"], vx_ot w = true := by decide +kernel
theorem zth_n210 : ∀ w ∈ (vx_atS "PastureBids" 210 zIOB ["java/lang/RuntimeException", "java/lang/Exception"]).filter (fun w => !goodWord w), w ∈ [Cond.castable zIOB zIOB, .declares (Bundle.initS "java/lang/RuntimeException"), .declares (Bundle.initS "java/lang/Exception"), .declares (Bundle.initS Bundle.tN)] := by decide +kernel
theorem zth_g210 : ∀ w ∈ Cond.classLink "PastureBids" 206 zIOB :: Cond.initialized zIOB :: vx_atS "PastureBids" 210 zIOB ["java/lang/RuntimeException", "java/lang/Exception"], vx_ot w = true := by decide +kernel
theorem fxX2_requireBid_210 : ∀ w ∈ (vx_atS RX2 210 "java/lang/IndexOutOfBoundsException" ["java/lang/RuntimeException", "java/lang/Exception"]).filter goodWord, w ∈ wsX2_requireBid := fun w h => List.mem_cons_of_mem _ (List.mem_append_right _ (h))
set_option maxRecDepth 100000 in
set_option maxHeartbeats 4000000 in
theorem x_X2_requireBid (l : Launch) (g : zG) (q : Nat → Nat) (a : zS) (bs : Nat → Int × Nat) (wb pd gw : Nat → Nat → Int) (hl9 : l.stackTraces = false) (ha : zOk a) (x : Int32) (hx : zBad x (zNb a)) : zX g l yX2_requireBid wsX2_requireBid { frames := 6, cells := 1, slots := 6, locals := 90 } [.ref (q 0), .int x] (wB g q a (zG0 a) bs wb pd gw) zIOB 1 6 := by
  refine zX.of (cc := cX2_requireBid) (nL := 2) (ret := none) (lv := [(0, .ref (q 0)), (1, .int x)]) (by decide) rfl (Nat.le_of_ble_eq_true rfl) rfl ?_
  intro E C0 F hT
  have C : zC g E cX2_requireBid RX2 wsX2_requireBid 2 none := C0
  obtain ⟨hnf, hnd, hnb, hou, hrs, hbd⟩ := id ha
  refine z_iload_n C dX2_requireBid_0 1 rfl ?_
  refine z_if_lt C 12 dX2_requireBid_1 (by decide) Iff.rfl (fun c_1 => ?_) (fun c_1 => ?_)
  · skip
    exact z_throwS C F hT hl9 (names := ["java/lang/RuntimeException", "java/lang/Exception"]) 6 rfl (by decide +kernel) (by decide +kernel) (C.w 1 rfl) (C.w 2 rfl) fxX2_requireBid_210 (z_cast C 17 rfl) zth_n210 zth_g210 dX2_requireBid_12 dX2_requireBid_15 dX2_requireBid_16 dX2_requireBid_18 dX2_requireBid_21 (Nat.le_of_ble_eq_true rfl) (Nat.le_of_ble_eq_true rfl) (Nat.le_of_ble_eq_true rfl) (Nat.le_of_ble_eq_true rfl) (Nat.le_of_ble_eq_true rfl) (Nat.le_of_ble_eq_true rfl)
  · skip
    refine z_iload_n C dX2_requireBid_4 1 rfl ?_
    refine z_aload_n C dX2_requireBid_5 0 rfl ?_
    refine z_get C inX2_requireBid_X2 0 wB_o rfl 10 (by decide) (C.w 3 rfl) rfl dX2_requireBid_6 ?_
    refine z_icmp_lt C 22 dX2_requireBid_9 (by decide) Iff.rfl (fun h9 => absurd h9 (Int32.not_lt.mpr (((zbad_lo (by omega)).mp hx).resolve_left c_1))) (fun c_9 => ?_)
    exact z_throwS C F hT hl9 (names := ["java/lang/RuntimeException", "java/lang/Exception"]) 6 rfl (by decide +kernel) (by decide +kernel) (C.w 1 rfl) (C.w 2 rfl) fxX2_requireBid_210 (z_cast C 17 rfl) zth_n210 zth_g210 dX2_requireBid_12 dX2_requireBid_15 dX2_requireBid_16 dX2_requireBid_18 dX2_requireBid_21 (Nat.le_of_ble_eq_true rfl) (Nat.le_of_ble_eq_true rfl) (Nat.le_of_ble_eq_true rfl) (Nat.le_of_ble_eq_true rfl) (Nat.le_of_ble_eq_true rfl) (Nat.le_of_ble_eq_true rfl)
theorem fxX2_requireField_210 : ∀ w ∈ (vx_atS RX2 210 "java/lang/IndexOutOfBoundsException" ["java/lang/RuntimeException", "java/lang/Exception"]).filter goodWord, w ∈ wsX2_requireField := fun w h => List.mem_cons_of_mem _ (List.mem_append_right _ (h))
set_option maxRecDepth 100000 in
set_option maxHeartbeats 4000000 in
theorem x_X2_requireField (l : Launch) (g : zG) (q : Nat → Nat) (a : zS) (bs : Nat → Int × Nat) (wb pd gw : Nat → Nat → Int) (hl9 : l.stackTraces = false) (ha : zOk a) (x : Int32) (hx : zBad x (zNf a)) : zX g l yX2_requireField wsX2_requireField { frames := 6, cells := 1, slots := 6, locals := 90 } [.ref (q 0), .int x] (wB g q a (zG0 a) bs wb pd gw) zIOB 1 6 := by
  refine zX.of (cc := cX2_requireField) (nL := 2) (ret := none) (lv := [(0, .ref (q 0)), (1, .int x)]) (by decide) rfl (Nat.le_of_ble_eq_true rfl) rfl ?_
  intro E C0 F hT
  have C : zC g E cX2_requireField RX2 wsX2_requireField 2 none := C0
  obtain ⟨hnf, hnd, hnb, hou, hrs, hbd⟩ := id ha
  refine z_iload_n C dX2_requireField_0 1 rfl ?_
  refine z_if_lt C 12 dX2_requireField_1 (by decide) Iff.rfl (fun c_1 => ?_) (fun c_1 => ?_)
  · skip
    exact z_throwS C F hT hl9 (names := ["java/lang/RuntimeException", "java/lang/Exception"]) 4 rfl (by decide +kernel) (by decide +kernel) (C.w 1 rfl) (C.w 2 rfl) fxX2_requireField_210 (z_cast C 17 rfl) zth_n210 zth_g210 dX2_requireField_12 dX2_requireField_15 dX2_requireField_16 dX2_requireField_18 dX2_requireField_21 (Nat.le_of_ble_eq_true rfl) (Nat.le_of_ble_eq_true rfl) (Nat.le_of_ble_eq_true rfl) (Nat.le_of_ble_eq_true rfl) (Nat.le_of_ble_eq_true rfl) (Nat.le_of_ble_eq_true rfl)
  · skip
    refine z_iload_n C dX2_requireField_4 1 rfl ?_
    refine z_aload_n C dX2_requireField_5 0 rfl ?_
    refine z_get C inX2_requireField_X2 0 wB_o rfl 1 (by decide) (C.w 3 rfl) rfl dX2_requireField_6 ?_
    refine z_icmp_lt C 22 dX2_requireField_9 (by decide) Iff.rfl (fun h9 => absurd h9 (Int32.not_lt.mpr (((zbad_lo (by omega)).mp hx).resolve_left c_1))) (fun c_9 => ?_)
    exact z_throwS C F hT hl9 (names := ["java/lang/RuntimeException", "java/lang/Exception"]) 4 rfl (by decide +kernel) (by decide +kernel) (C.w 1 rfl) (C.w 2 rfl) fxX2_requireField_210 (z_cast C 17 rfl) zth_n210 zth_g210 dX2_requireField_12 dX2_requireField_15 dX2_requireField_16 dX2_requireField_18 dX2_requireField_21 (Nat.le_of_ble_eq_true rfl) (Nat.le_of_ble_eq_true rfl) (Nat.le_of_ble_eq_true rfl) (Nat.le_of_ble_eq_true rfl) (Nat.le_of_ble_eq_true rfl) (Nat.le_of_ble_eq_true rfl)
theorem fxX2_requireBidder_210 : ∀ w ∈ (vx_atS RX2 210 "java/lang/IndexOutOfBoundsException" ["java/lang/RuntimeException", "java/lang/Exception"]).filter goodWord, w ∈ wsX2_requireBidder := fun w h => List.mem_cons_of_mem _ (List.mem_append_right _ (h))
set_option maxRecDepth 100000 in
set_option maxHeartbeats 4000000 in
theorem x_X2_requireBidder (l : Launch) (g : zG) (q : Nat → Nat) (a : zS) (bs : Nat → Int × Nat) (wb pd gw : Nat → Nat → Int) (hl9 : l.stackTraces = false) (ha : zOk a) (x : Int32) (hx : zBad x (zNd a)) : zX g l yX2_requireBidder wsX2_requireBidder { frames := 6, cells := 1, slots := 6, locals := 90 } [.ref (q 0), .int x] (wB g q a (zG0 a) bs wb pd gw) zIOB 1 6 := by
  refine zX.of (cc := cX2_requireBidder) (nL := 2) (ret := none) (lv := [(0, .ref (q 0)), (1, .int x)]) (by decide) rfl (Nat.le_of_ble_eq_true rfl) rfl ?_
  intro E C0 F hT
  have C : zC g E cX2_requireBidder RX2 wsX2_requireBidder 2 none := C0
  obtain ⟨hnf, hnd, hnb, hou, hrs, hbd⟩ := id ha
  refine z_iload_n C dX2_requireBidder_0 1 rfl ?_
  refine z_if_lt C 12 dX2_requireBidder_1 (by decide) Iff.rfl (fun c_1 => ?_) (fun c_1 => ?_)
  · skip
    exact z_throwS C F hT hl9 (names := ["java/lang/RuntimeException", "java/lang/Exception"]) 5 rfl (by decide +kernel) (by decide +kernel) (C.w 1 rfl) (C.w 2 rfl) fxX2_requireBidder_210 (z_cast C 17 rfl) zth_n210 zth_g210 dX2_requireBidder_12 dX2_requireBidder_15 dX2_requireBidder_16 dX2_requireBidder_18 dX2_requireBidder_21 (Nat.le_of_ble_eq_true rfl) (Nat.le_of_ble_eq_true rfl) (Nat.le_of_ble_eq_true rfl) (Nat.le_of_ble_eq_true rfl) (Nat.le_of_ble_eq_true rfl) (Nat.le_of_ble_eq_true rfl)
  · skip
    refine z_iload_n C dX2_requireBidder_4 1 rfl ?_
    refine z_aload_n C dX2_requireBidder_5 0 rfl ?_
    refine z_get C inX2_requireBidder_X2 0 wB_o rfl 3 (by decide) (C.w 3 rfl) rfl dX2_requireBidder_6 ?_
    refine z_icmp_lt C 22 dX2_requireBidder_9 (by decide) Iff.rfl (fun h9 => absurd h9 (Int32.not_lt.mpr (((zbad_lo (by omega)).mp hx).resolve_left c_1))) (fun c_9 => ?_)
    exact z_throwS C F hT hl9 (names := ["java/lang/RuntimeException", "java/lang/Exception"]) 5 rfl (by decide +kernel) (by decide +kernel) (C.w 1 rfl) (C.w 2 rfl) fxX2_requireBidder_210 (z_cast C 17 rfl) zth_n210 zth_g210 dX2_requireBidder_12 dX2_requireBidder_15 dX2_requireBidder_16 dX2_requireBidder_18 dX2_requireBidder_21 (Nat.le_of_ble_eq_true rfl) (Nat.le_of_ble_eq_true rfl) (Nat.le_of_ble_eq_true rfl) (Nat.le_of_ble_eq_true rfl) (Nat.le_of_ble_eq_true rfl) (Nat.le_of_ble_eq_true rfl)
theorem fxX2_requireWhat_210 : ∀ w ∈ (vx_atS RX2 210 "java/lang/IndexOutOfBoundsException" ["java/lang/RuntimeException", "java/lang/Exception"]).filter goodWord, w ∈ wsX2_requireWhat := fun w h => List.mem_cons_of_mem _ (List.mem_append_right _ (h))
set_option maxRecDepth 100000 in
set_option maxHeartbeats 4000000 in
theorem x_X2_requireWhat (l : Launch) (g : zG) (w : va_W) (hl9 : l.stackTraces = false) (x : Int32) (t : Nat) (ht : t < 100) (hx : zBad x (t + 1)) : zX g l yX2_requireWhat wsX2_requireWhat { frames := 6, cells := 1, slots := 6, locals := 90 } [.int x, .int (nI t)] (w) zIOB 1 6 := by
  refine zX.of (cc := cX2_requireWhat) (nL := 2) (ret := none) (lv := [(0, .int x), (1, .int (nI t))]) (by decide) rfl (Nat.le_of_ble_eq_true rfl) rfl ?_
  intro E C0 F hT
  have C : zC g E cX2_requireWhat RX2 wsX2_requireWhat 2 none := C0
  refine z_iload_n C dX2_requireWhat_0 0 rfl ?_
  refine z_if_lt C 9 dX2_requireWhat_1 (by decide) Iff.rfl (fun c_1 => ?_) (fun c_1 => ?_)
  · skip
    exact z_throwS C F hT hl9 (names := ["java/lang/RuntimeException", "java/lang/Exception"]) 7 rfl (by decide +kernel) (by decide +kernel) (C.w 1 rfl) (C.w 2 rfl) fxX2_requireWhat_210 (z_cast C 17 rfl) zth_n210 zth_g210 dX2_requireWhat_9 dX2_requireWhat_12 dX2_requireWhat_13 dX2_requireWhat_15 dX2_requireWhat_18 (Nat.le_of_ble_eq_true rfl) (Nat.le_of_ble_eq_true rfl) (Nat.le_of_ble_eq_true rfl) (Nat.le_of_ble_eq_true rfl) (Nat.le_of_ble_eq_true rfl) (Nat.le_of_ble_eq_true rfl)
  · skip
    refine z_iload_n C dX2_requireWhat_4 0 rfl ?_
    refine z_iload_n C dX2_requireWhat_5 1 rfl ?_
    refine z_icmp_le C 19 dX2_requireWhat_6 (by decide) Iff.rfl (fun h9 => absurd h9 (Int32.not_le.mpr ((zbad_top (by omega) hx).resolve_left c_1))) (fun c_6 => ?_)
    exact z_throwS C F hT hl9 (names := ["java/lang/RuntimeException", "java/lang/Exception"]) 7 rfl (by decide +kernel) (by decide +kernel) (C.w 1 rfl) (C.w 2 rfl) fxX2_requireWhat_210 (z_cast C 17 rfl) zth_n210 zth_g210 dX2_requireWhat_9 dX2_requireWhat_12 dX2_requireWhat_13 dX2_requireWhat_15 dX2_requireWhat_18 (Nat.le_of_ble_eq_true rfl) (Nat.le_of_ble_eq_true rfl) (Nat.le_of_ble_eq_true rfl) (Nat.le_of_ble_eq_true rfl) (Nat.le_of_ble_eq_true rfl) (Nat.le_of_ble_eq_true rfl)
theorem fxX2_requireAmount_221 : ∀ w ∈ (vx_atS RX2 221 "java/lang/IllegalArgumentException" ["java/lang/RuntimeException", "java/lang/Exception"]).filter goodWord, w ∈ wsX2_requireAmount := fun w h => List.mem_cons_of_mem _ (List.mem_append_right _ (h))
set_option maxRecDepth 100000 in
set_option maxHeartbeats 4000000 in
theorem x_X2_requireAmount (l : Launch) (g : zG) (w : va_W) (hl9 : l.stackTraces = false) (x : Int32) (hx : zBad x 1000) : zX g l yX2_requireAmount wsX2_requireAmount { frames := 6, cells := 1, slots := 6, locals := 90 } [.int x] (w) zIAE 1 6 := by
  refine zX.of (cc := cX2_requireAmount) (nL := 1) (ret := none) (lv := [(0, .int x)]) (by decide) rfl (Nat.le_of_ble_eq_true rfl) rfl ?_
  intro E C0 F hT
  have C : zC g E cX2_requireAmount RX2 wsX2_requireAmount 1 none := C0
  refine z_iload_n C dX2_requireAmount_0 0 rfl ?_
  refine z_if_lt C 11 dX2_requireAmount_1 (by decide) Iff.rfl (fun c_1 => ?_) (fun c_1 => ?_)
  · skip
    exact z_throwS C F hT hl9 (names := ["java/lang/RuntimeException", "java/lang/Exception"]) 9 rfl (by decide +kernel) (by decide +kernel) (C.w 1 rfl) (C.w 2 rfl) fxX2_requireAmount_221 (z_cast C 16 rfl) zth_n221 zth_g221 dX2_requireAmount_11 dX2_requireAmount_14 dX2_requireAmount_15 dX2_requireAmount_17 dX2_requireAmount_20 (Nat.le_of_ble_eq_true rfl) (Nat.le_of_ble_eq_true rfl) (Nat.le_of_ble_eq_true rfl) (Nat.le_of_ble_eq_true rfl) (Nat.le_of_ble_eq_true rfl) (Nat.le_of_ble_eq_true rfl)
  · skip
    refine z_iload_n C dX2_requireAmount_4 0 rfl ?_
    refine z_sipush C (nI 999) dX2_requireAmount_5 (by decide) ?_
    refine z_icmp_le C 21 dX2_requireAmount_8 (by decide) Iff.rfl (fun h9 => absurd h9 (Int32.not_le.mpr ((zbad_top (n := 999) (by decide) hx).resolve_left c_1))) (fun c_8 => ?_)
    exact z_throwS C F hT hl9 (names := ["java/lang/RuntimeException", "java/lang/Exception"]) 9 rfl (by decide +kernel) (by decide +kernel) (C.w 1 rfl) (C.w 2 rfl) fxX2_requireAmount_221 (z_cast C 16 rfl) zth_n221 zth_g221 dX2_requireAmount_11 dX2_requireAmount_14 dX2_requireAmount_15 dX2_requireAmount_17 dX2_requireAmount_20 (Nat.le_of_ble_eq_true rfl) (Nat.le_of_ble_eq_true rfl) (Nat.le_of_ble_eq_true rfl) (Nat.le_of_ble_eq_true rfl) (Nat.le_of_ble_eq_true rfl) (Nat.le_of_ble_eq_true rfl)
theorem fxX2_requireReserve_221 : ∀ w ∈ (vx_atS RX2 221 "java/lang/IllegalArgumentException" ["java/lang/RuntimeException", "java/lang/Exception"]).filter goodWord, w ∈ wsX2_requireReserve := fun w h => List.mem_cons_of_mem _ (List.mem_append_right _ (h))
set_option maxRecDepth 100000 in
set_option maxHeartbeats 4000000 in
theorem x_X2_requireReserve (l : Launch) (g : zG) (w : va_W) (hl9 : l.stackTraces = false) (x : Int32) (hx : zBad x 100) : zX g l yX2_requireReserve wsX2_requireReserve { frames := 6, cells := 1, slots := 6, locals := 90 } [.int x] (w) zIAE 1 6 := by
  refine zX.of (cc := cX2_requireReserve) (nL := 1) (ret := none) (lv := [(0, .int x)]) (by decide) rfl (Nat.le_of_ble_eq_true rfl) rfl ?_
  intro E C0 F hT
  have C : zC g E cX2_requireReserve RX2 wsX2_requireReserve 1 none := C0
  refine z_iload_n C dX2_requireReserve_0 0 rfl ?_
  refine z_if_lt C 10 dX2_requireReserve_1 (by decide) Iff.rfl (fun c_1 => ?_) (fun c_1 => ?_)
  · skip
    exact z_throwS C F hT hl9 (names := ["java/lang/RuntimeException", "java/lang/Exception"]) 8 rfl (by decide +kernel) (by decide +kernel) (C.w 1 rfl) (C.w 2 rfl) fxX2_requireReserve_221 (z_cast C 16 rfl) zth_n221 zth_g221 dX2_requireReserve_10 dX2_requireReserve_13 dX2_requireReserve_14 dX2_requireReserve_16 dX2_requireReserve_19 (Nat.le_of_ble_eq_true rfl) (Nat.le_of_ble_eq_true rfl) (Nat.le_of_ble_eq_true rfl) (Nat.le_of_ble_eq_true rfl) (Nat.le_of_ble_eq_true rfl) (Nat.le_of_ble_eq_true rfl)
  · skip
    refine z_iload_n C dX2_requireReserve_4 0 rfl ?_
    refine z_bipush C (nI 99) dX2_requireReserve_5 (by decide) ?_
    refine z_icmp_le C 20 dX2_requireReserve_7 (by decide) Iff.rfl (fun h9 => absurd h9 (Int32.not_le.mpr ((zbad_top (n := 99) (by decide) hx).resolve_left c_1))) (fun c_7 => ?_)
    exact z_throwS C F hT hl9 (names := ["java/lang/RuntimeException", "java/lang/Exception"]) 8 rfl (by decide +kernel) (by decide +kernel) (C.w 1 rfl) (C.w 2 rfl) fxX2_requireReserve_221 (z_cast C 16 rfl) zth_n221 zth_g221 dX2_requireReserve_10 dX2_requireReserve_13 dX2_requireReserve_14 dX2_requireReserve_16 dX2_requireReserve_19 (Nat.le_of_ble_eq_true rfl) (Nat.le_of_ble_eq_true rfl) (Nat.le_of_ble_eq_true rfl) (Nat.le_of_ble_eq_true rfl) (Nat.le_of_ble_eq_true rfl) (Nat.le_of_ble_eq_true rfl)
theorem fxX2_requireBundle_221 : ∀ w ∈ (vx_atS RX2 221 "java/lang/IllegalArgumentException" ["java/lang/RuntimeException", "java/lang/Exception"]).filter goodWord, w ∈ wsX2_requireBundle := fun w h => List.mem_cons_of_mem _ (List.mem_append_right _ (h))
set_option maxRecDepth 100000 in
set_option maxHeartbeats 4000000 in
theorem x_X2_requireBundle (l : Launch) (g : zG) (q : Nat → Nat) (a : zS) (bs : Nat → Int × Nat) (wb pd gw : Nat → Nat → Int) (hl9 : l.stackTraces = false) (ha : zOk a) (x : Int32) (hx : zBadM x (zNf a)) : zX g l yX2_requireBundle wsX2_requireBundle { frames := 6, cells := 1, slots := 6, locals := 90 } [.ref (q 0), .int x] (wB g q a (zG0 a) bs wb pd gw) zIAE 1 6 := by
  refine zX.of (cc := cX2_requireBundle) (nL := 2) (ret := none) (lv := [(0, .ref (q 0)), (1, .int x)]) (by decide) rfl (Nat.le_of_ble_eq_true rfl) rfl ?_
  intro E C0 F hT
  have C : zC g E cX2_requireBundle RX2 wsX2_requireBundle 2 none := C0
  obtain ⟨hnf, hnd, hnb, hou, hrs, hbd⟩ := id ha
  have p8 : 2 ^ zNf a ≤ 2 ^ 8 := zp2_le hnf
  refine z_iload_n C dX2_requireBundle_0 1 rfl ?_
  refine z_if_le C 14 dX2_requireBundle_1 (by decide) Iff.rfl (fun c_1 => ?_) (fun c_1 => ?_)
  · skip
    exact z_throwS C F hT hl9 (names := ["java/lang/RuntimeException", "java/lang/Exception"]) 10 rfl (by decide +kernel) (by decide +kernel) (C.w 1 rfl) (C.w 2 rfl) fxX2_requireBundle_221 (z_cast C 16 rfl) zth_n221 zth_g221 dX2_requireBundle_14 dX2_requireBundle_17 dX2_requireBundle_18 dX2_requireBundle_20 dX2_requireBundle_23 (Nat.le_of_ble_eq_true rfl) (Nat.le_of_ble_eq_true rfl) (Nat.le_of_ble_eq_true rfl) (Nat.le_of_ble_eq_true rfl) (Nat.le_of_ble_eq_true rfl) (Nat.le_of_ble_eq_true rfl)
  · skip
    refine z_iload_n C dX2_requireBundle_4 1 rfl ?_
    refine z_iconst C (nI 1) dX2_requireBundle_5 (by decide) ?_
    refine z_aload_n C dX2_requireBundle_6 0 rfl ?_
    refine z_get C inX2_requireBundle_X2 0 wB_o rfl 1 (by decide) (C.w 3 rfl) rfl dX2_requireBundle_7 ?_
    refine z_ishl C dX2_requireBundle_10 (v := nI (2 ^ (zNf a))) (zshl_1N (by omega)) ?_
    refine z_icmp_lt C 24 dX2_requireBundle_11 (by decide) Iff.rfl (fun h9 => absurd h9 (Int32.not_lt.mpr (hx.resolve_left c_1))) (fun c_11 => ?_)
    exact z_throwS C F hT hl9 (names := ["java/lang/RuntimeException", "java/lang/Exception"]) 10 rfl (by decide +kernel) (by decide +kernel) (C.w 1 rfl) (C.w 2 rfl) fxX2_requireBundle_221 (z_cast C 16 rfl) zth_n221 zth_g221 dX2_requireBundle_14 dX2_requireBundle_17 dX2_requireBundle_18 dX2_requireBundle_20 dX2_requireBundle_23 (Nat.le_of_ble_eq_true rfl) (Nat.le_of_ble_eq_true rfl) (Nat.le_of_ble_eq_true rfl) (Nat.le_of_ble_eq_true rfl) (Nat.le_of_ble_eq_true rfl) (Nat.le_of_ble_eq_true rfl)
set_option maxRecDepth 100000 in
set_option maxHeartbeats 4000000 in
theorem x_X2_field_e1 (l : Launch) (g : zG) (q : Nat → Nat) (a : zS) (bs : Nat → Int × Nat) (wb pd gw : Nat → Nat → Int) (hl9 : l.stackTraces = false) (ha : zOk a) (x : Int32) (hx : zBad x 100) : zX g l yX2_field wsX2_field { frames := 7, cells := 1, slots := 6, locals := 110 } [.ref (q 0), .int x] (wB g q a (zG0 a) bs wb pd gw) zIAE 1 6 := by
  refine zX.of (cc := cX2_field) (nL := 3) (ret := (some .int)) (lv := [(0, .ref (q 0)), (1, .int x)]) (by decide) rfl (Nat.le_of_ble_eq_true rfl) rfl ?_
  intro E C0 F hT
  have C : zC g E cX2_field RX2 wsX2_field 3 (some .int) := C0
  obtain ⟨hnf, hnd, hnb, hou, hrs, hbd⟩ := id ha
  refine z_iload_n C dX2_field_0 1 rfl ?_
  exact z_xcallS C F (x_X2_requireReserve l g (wB g q a (zG0 a) bs wb pd gw) hl9 x hx) (va_cwS 1 C.ts gX2_field_X2_requireReserve rfl rfl rfl (by decide +kernel) ⟨Nat.le_of_ble_eq_true rfl, Nat.le_of_ble_eq_true rfl⟩) rfl rfl (Nat.le_of_ble_eq_true rfl) dX2_field_1 ⟨Nat.le_of_ble_eq_true rfl, Nat.le_of_ble_eq_true rfl⟩ (z_xout C hT (Nat.le_of_ble_eq_true rfl) (Nat.le_of_ble_eq_true rfl))
theorem fxX2_field_68 : ∀ w ∈ (vx_atS RX2 68 "java/lang/IllegalStateException" ["java/lang/RuntimeException", "java/lang/Exception"]).filter goodWord, w ∈ wsX2_field := fun w h => List.mem_cons_of_mem _ (List.mem_append_left _ (List.mem_append_right _ (h)))
set_option maxRecDepth 100000 in
set_option maxHeartbeats 4000000 in
theorem x_X2_field_e2 (l : Launch) (g : zG) (q : Nat → Nat) (a : zS) (bs : Nat → Int × Nat) (wb pd gw : Nat → Nat → Int) (hl9 : l.stackTraces = false) (ha : zOk a) (x : Nat) (hx : x ≤ 99) (hf : zNf a = 8) : zX g l yX2_field wsX2_field { frames := 7, cells := 1, slots := 6, locals := 110 } [.ref (q 0), .int (nI x)] (wB g q a (zG0 a) bs wb pd gw) zISE 1 6 := by
  refine zX.of (cc := cX2_field) (nL := 3) (ret := (some .int)) (lv := [(0, .ref (q 0)), (1, .int (nI x))]) (by decide) rfl (Nat.le_of_ble_eq_true rfl) rfl ?_
  intro E C0 F hT
  have C : zC g E cX2_field RX2 wsX2_field 3 (some .int) := C0
  obtain ⟨hnf, hnd, hnb, hou, hrs, hbd⟩ := id ha
  refine z_iload_n C dX2_field_0 1 rfl ?_
  refine z_callS C (c_X2_requireReserve l g (wB g q a (zG0 a) bs wb pd gw) x (by omega)) (va_cwS 1 C.ts gX2_field_X2_requireReserve rfl rfl rfl (by decide +kernel) ⟨Nat.le_of_ble_eq_true rfl, Nat.le_of_ble_eq_true rfl⟩) rfl rfl (Nat.le_of_ble_eq_true rfl) dX2_field_1 ⟨Nat.zero_le _, Nat.zero_le _⟩ (z_v ?_)
  refine z_aload_n C dX2_field_4 0 rfl ?_
  refine z_get C inX2_field_X2 0 wB_o rfl 1 (by decide) (C.w 3 rfl) rfl dX2_field_5 ?_
  refine z_bipush C (nI 8) dX2_field_8 (by decide) ?_
  refine z_icmp_lt C 23 dX2_field_10 (by decide) (zlt_NN (by omega) (by omega)) (fun h9 => absurd h9 (by omega)) (fun c_10 => ?_)
  exact z_throwS C F hT hl9 (names := ["java/lang/RuntimeException", "java/lang/Exception"]) 0 rfl (by decide +kernel) (by decide +kernel) (C.w 1 rfl) (C.w 2 rfl) fxX2_field_68 (z_cast C 15 rfl) zth_n68 zth_g68 dX2_field_13 dX2_field_16 dX2_field_17 dX2_field_19 dX2_field_22 (Nat.le_of_ble_eq_true rfl) (Nat.le_of_ble_eq_true rfl) (Nat.le_of_ble_eq_true rfl) (Nat.le_of_ble_eq_true rfl) (Nat.le_of_ble_eq_true rfl) (Nat.le_of_ble_eq_true rfl)
set_option maxRecDepth 100000 in
set_option maxHeartbeats 4000000 in
theorem x_X2_setReserve_e1 (l : Launch) (g : zG) (q : Nat → Nat) (a : zS) (bs : Nat → Int × Nat) (wb pd gw : Nat → Nat → Int) (hl9 : l.stackTraces = false) (ha : zOk a) (x x2 : Int32) (hx : zBad x (zNf a)) : zX g l yX2_setReserve wsX2_setReserve { frames := 7, cells := 1, slots := 6, locals := 111 } [.ref (q 0), .int x, .int x2] (wB g q a (zG0 a) bs wb pd gw) zIOB 1 6 := by
  refine zX.of (cc := cX2_setReserve) (nL := 5) (ret := (some .int)) (lv := [(0, .ref (q 0)), (1, .int x), (2, .int x2)]) (by decide) rfl (Nat.le_of_ble_eq_true rfl) rfl ?_
  intro E C0 F hT
  have C : zC g E cX2_setReserve RX2 wsX2_setReserve 5 (some .int) := C0
  obtain ⟨hnf, hnd, hnb, hou, hrs, hbd⟩ := id ha
  refine z_aload_n C dX2_setReserve_0 0 rfl ?_
  refine z_iload_n C dX2_setReserve_1 1 rfl ?_
  exact z_xcallV C F (x_X2_requireField l g q a bs wb pd gw hl9 ha x hx) (cwV 1 C.ts gX2_setReserve_X2_requireField rfl rfl rfl (by decide +kernel) ⟨Nat.le_of_ble_eq_true rfl, Nat.le_of_ble_eq_true rfl⟩) wB_o rfl rfl rfl (Nat.le_of_ble_eq_true rfl) dX2_setReserve_2 ⟨Nat.le_of_ble_eq_true rfl, Nat.le_of_ble_eq_true rfl⟩ (z_xout C hT (Nat.le_of_ble_eq_true rfl) (Nat.le_of_ble_eq_true rfl))
set_option maxRecDepth 100000 in
set_option maxHeartbeats 4000000 in
theorem x_X2_setReserve_e2 (l : Launch) (g : zG) (q : Nat → Nat) (a : zS) (bs : Nat → Int × Nat) (wb pd gw : Nat → Nat → Int) (hl9 : l.stackTraces = false) (ha : zOk a) (f : Nat) (x : Int32) (hf : f < zNf a) (hx : zBad x 100) : zX g l yX2_setReserve wsX2_setReserve { frames := 7, cells := 1, slots := 6, locals := 111 } [.ref (q 0), .int (nI f), .int x] (wB g q a (zG0 a) bs wb pd gw) zIAE 1 6 := by
  refine zX.of (cc := cX2_setReserve) (nL := 5) (ret := (some .int)) (lv := [(0, .ref (q 0)), (1, .int (nI f)), (2, .int x)]) (by decide) rfl (Nat.le_of_ble_eq_true rfl) rfl ?_
  intro E C0 F hT
  have C : zC g E cX2_setReserve RX2 wsX2_setReserve 5 (some .int) := C0
  obtain ⟨hnf, hnd, hnb, hou, hrs, hbd⟩ := id ha
  refine z_aload_n C dX2_setReserve_0 0 rfl ?_
  refine z_iload_n C dX2_setReserve_1 1 rfl ?_
  refine z_callV C (c_X2_requireField l g q a bs wb pd gw ha f (by omega)) (cwV 1 C.ts gX2_setReserve_X2_requireField rfl rfl rfl (by decide +kernel) ⟨Nat.le_of_ble_eq_true rfl, Nat.le_of_ble_eq_true rfl⟩) wB_o rfl rfl rfl (Nat.le_of_ble_eq_true rfl) dX2_setReserve_2 ⟨Nat.zero_le _, Nat.zero_le _⟩ (z_v ?_)
  refine z_iload_n C dX2_setReserve_5 2 rfl ?_
  exact z_xcallS C F (x_X2_requireReserve l g (wB g q a (zG0 a) bs wb pd gw) hl9 x hx) (va_cwS 1 C.ts gX2_setReserve_X2_requireReserve rfl rfl rfl (by decide +kernel) ⟨Nat.le_of_ble_eq_true rfl, Nat.le_of_ble_eq_true rfl⟩) rfl rfl (Nat.le_of_ble_eq_true rfl) dX2_setReserve_6 ⟨Nat.le_of_ble_eq_true rfl, Nat.le_of_ble_eq_true rfl⟩ (z_xout C hT (Nat.le_of_ble_eq_true rfl) (Nat.le_of_ble_eq_true rfl))
theorem fxX2_join_68 : ∀ w ∈ (vx_atS RX2 68 "java/lang/IllegalStateException" ["java/lang/RuntimeException", "java/lang/Exception"]).filter goodWord, w ∈ wsX2_join := fun w h => List.mem_cons_of_mem _ (List.mem_append_right _ (h))
set_option maxRecDepth 100000 in
set_option maxHeartbeats 4000000 in
theorem x_X2_join_e1 (l : Launch) (g : zG) (q : Nat → Nat) (a : zS) (bs : Nat → Int × Nat) (wb pd gw : Nat → Nat → Int) (hl9 : l.stackTraces = false) (ha : zOk a) (hd : zNd a = 5) : zX g l yX2_join wsX2_join { frames := 6, cells := 1, slots := 6, locals := 90 } [.ref (q 0)] (wB g q a (zG0 a) bs wb pd gw) zISE 1 6 := by
  refine zX.of (cc := cX2_join) (nL := 2) (ret := (some .int)) (lv := [(0, .ref (q 0))]) (by decide) rfl (Nat.le_of_ble_eq_true rfl) rfl ?_
  intro E C0 F hT
  have C : zC g E cX2_join RX2 wsX2_join 2 (some .int) := C0
  obtain ⟨hnf, hnd, hnb, hou, hrs, hbd⟩ := id ha
  refine z_aload_n C dX2_join_0 0 rfl ?_
  refine z_get C inX2_join_X2 0 wB_o rfl 3 (by decide) (C.w 3 rfl) rfl dX2_join_1 ?_
  refine z_iconst C (nI 5) dX2_join_4 (by decide) ?_
  refine z_icmp_lt C 18 dX2_join_5 (by decide) (zlt_NN (by omega) (by omega)) (fun h9 => absurd h9 (by omega)) (fun c_5 => ?_)
  exact z_throwS C F hT hl9 (names := ["java/lang/RuntimeException", "java/lang/Exception"]) 1 rfl (by decide +kernel) (by decide +kernel) (C.w 1 rfl) (C.w 2 rfl) fxX2_join_68 (z_cast C 15 rfl) zth_n68 zth_g68 dX2_join_8 dX2_join_11 dX2_join_12 dX2_join_14 dX2_join_17 (Nat.le_of_ble_eq_true rfl) (Nat.le_of_ble_eq_true rfl) (Nat.le_of_ble_eq_true rfl) (Nat.le_of_ble_eq_true rfl) (Nat.le_of_ble_eq_true rfl) (Nat.le_of_ble_eq_true rfl)
set_option maxRecDepth 100000 in
set_option maxHeartbeats 4000000 in
theorem x_X2_setIn_e1 (l : Launch) (g : zG) (q : Nat → Nat) (a : zS) (bs : Nat → Int × Nat) (wb pd gw : Nat → Nat → Int) (hl9 : l.stackTraces = false) (ha : zOk a) (x x2 : Int32) (hx : zBad x (zNd a)) : zX g l yX2_setIn wsX2_setIn { frames := 7, cells := 1, slots := 6, locals := 111 } [.ref (q 0), .int x, .int x2] (wB g q a (zG0 a) bs wb pd gw) zIOB 1 6 := by
  refine zX.of (cc := cX2_setIn) (nL := 4) (ret := (some .boolean)) (lv := [(0, .ref (q 0)), (1, .int x), (2, .int x2)]) (by decide) rfl (Nat.le_of_ble_eq_true rfl) rfl ?_
  intro E C0 F hT
  have C : zC g E cX2_setIn RX2 wsX2_setIn 4 (some .boolean) := C0
  obtain ⟨hnf, hnd, hnb, hou, hrs, hbd⟩ := id ha
  refine z_aload_n C dX2_setIn_0 0 rfl ?_
  refine z_iload_n C dX2_setIn_1 1 rfl ?_
  exact z_xcallV C F (x_X2_requireBidder l g q a bs wb pd gw hl9 ha x hx) (cwV 1 C.ts gX2_setIn_X2_requireBidder rfl rfl rfl (by decide +kernel) ⟨Nat.le_of_ble_eq_true rfl, Nat.le_of_ble_eq_true rfl⟩) wB_o rfl rfl rfl (Nat.le_of_ble_eq_true rfl) dX2_setIn_2 ⟨Nat.le_of_ble_eq_true rfl, Nat.le_of_ble_eq_true rfl⟩ (z_xout C hT (Nat.le_of_ble_eq_true rfl) (Nat.le_of_ble_eq_true rfl))
set_option maxRecDepth 100000 in
set_option maxHeartbeats 4000000 in
theorem x_X2_bid_e1 (l : Launch) (g : zG) (q : Nat → Nat) (a : zS) (bs : Nat → Int × Nat) (wb pd gw : Nat → Nat → Int) (hl9 : l.stackTraces = false) (ha : zOk a) (x x2 x3 : Int32) (hx : zBad x (zNd a)) : zX g l yX2_bid wsX2_bid { frames := 7, cells := 1, slots := 6, locals := 111 } [.ref (q 0), .int x, .int x2, .int x3] (wB g q a (zG0 a) bs wb pd gw) zIOB 1 6 := by
  refine zX.of (cc := cX2_bid) (nL := 5) (ret := (some .int)) (lv := [(0, .ref (q 0)), (1, .int x), (2, .int x2), (3, .int x3)]) (by decide) rfl (Nat.le_of_ble_eq_true rfl) rfl ?_
  intro E C0 F hT
  have C : zC g E cX2_bid RX2 wsX2_bid 5 (some .int) := C0
  obtain ⟨hnf, hnd, hnb, hou, hrs, hbd⟩ := id ha
  refine z_aload_n C dX2_bid_0 0 rfl ?_
  refine z_iload_n C dX2_bid_1 1 rfl ?_
  exact z_xcallV C F (x_X2_requireBidder l g q a bs wb pd gw hl9 ha x hx) (cwV 1 C.ts gX2_bid_X2_requireBidder rfl rfl rfl (by decide +kernel) ⟨Nat.le_of_ble_eq_true rfl, Nat.le_of_ble_eq_true rfl⟩) wB_o rfl rfl rfl (Nat.le_of_ble_eq_true rfl) dX2_bid_2 ⟨Nat.le_of_ble_eq_true rfl, Nat.le_of_ble_eq_true rfl⟩ (z_xout C hT (Nat.le_of_ble_eq_true rfl) (Nat.le_of_ble_eq_true rfl))
set_option maxRecDepth 100000 in
set_option maxHeartbeats 4000000 in
theorem x_X2_bid_e2 (l : Launch) (g : zG) (q : Nat → Nat) (a : zS) (bs : Nat → Int × Nat) (wb pd gw : Nat → Nat → Int) (hl9 : l.stackTraces = false) (ha : zOk a) (d : Nat) (x x2 : Int32) (hd : d < zNd a) (hx : zBadM x (zNf a)) : zX g l yX2_bid wsX2_bid { frames := 7, cells := 1, slots := 6, locals := 111 } [.ref (q 0), .int (nI d), .int x, .int x2] (wB g q a (zG0 a) bs wb pd gw) zIAE 1 6 := by
  refine zX.of (cc := cX2_bid) (nL := 5) (ret := (some .int)) (lv := [(0, .ref (q 0)), (1, .int (nI d)), (2, .int x), (3, .int x2)]) (by decide) rfl (Nat.le_of_ble_eq_true rfl) rfl ?_
  intro E C0 F hT
  have C : zC g E cX2_bid RX2 wsX2_bid 5 (some .int) := C0
  obtain ⟨hnf, hnd, hnb, hou, hrs, hbd⟩ := id ha
  refine z_aload_n C dX2_bid_0 0 rfl ?_
  refine z_iload_n C dX2_bid_1 1 rfl ?_
  refine z_callV C (c_X2_requireBidder l g q a bs wb pd gw ha d (by omega)) (cwV 1 C.ts gX2_bid_X2_requireBidder rfl rfl rfl (by decide +kernel) ⟨Nat.le_of_ble_eq_true rfl, Nat.le_of_ble_eq_true rfl⟩) wB_o rfl rfl rfl (Nat.le_of_ble_eq_true rfl) dX2_bid_2 ⟨Nat.zero_le _, Nat.zero_le _⟩ (z_v ?_)
  refine z_aload_n C dX2_bid_5 0 rfl ?_
  refine z_iload_n C dX2_bid_6 2 rfl ?_
  exact z_xcallV C F (x_X2_requireBundle l g q a bs wb pd gw hl9 ha x hx) (cwV 1 C.ts gX2_bid_X2_requireBundle rfl rfl rfl (by decide +kernel) ⟨Nat.le_of_ble_eq_true rfl, Nat.le_of_ble_eq_true rfl⟩) wB_o rfl rfl rfl (Nat.le_of_ble_eq_true rfl) dX2_bid_7 ⟨Nat.le_of_ble_eq_true rfl, Nat.le_of_ble_eq_true rfl⟩ (z_xout C hT (Nat.le_of_ble_eq_true rfl) (Nat.le_of_ble_eq_true rfl))
set_option maxRecDepth 100000 in
set_option maxHeartbeats 4000000 in
theorem x_X2_bid_e3 (l : Launch) (g : zG) (q : Nat → Nat) (a : zS) (bs : Nat → Int × Nat) (wb pd gw : Nat → Nat → Int) (hl9 : l.stackTraces = false) (ha : zOk a) (d m : Nat) (x : Int32) (hd : d < zNd a) (hm0 : 0 < m) (hm : m < 2 ^ zNf a) (hx : zBad x 1000) : zX g l yX2_bid wsX2_bid { frames := 7, cells := 1, slots := 6, locals := 111 } [.ref (q 0), .int (nI d), .int (nI m), .int x] (wB g q a (zG0 a) bs wb pd gw) zIAE 1 6 := by
  refine zX.of (cc := cX2_bid) (nL := 5) (ret := (some .int)) (lv := [(0, .ref (q 0)), (1, .int (nI d)), (2, .int (nI m)), (3, .int x)]) (by decide) rfl (Nat.le_of_ble_eq_true rfl) rfl ?_
  intro E C0 F hT
  have C : zC g E cX2_bid RX2 wsX2_bid 5 (some .int) := C0
  obtain ⟨hnf, hnd, hnb, hou, hrs, hbd⟩ := id ha
  refine z_aload_n C dX2_bid_0 0 rfl ?_
  refine z_iload_n C dX2_bid_1 1 rfl ?_
  refine z_callV C (c_X2_requireBidder l g q a bs wb pd gw ha d (by omega)) (cwV 1 C.ts gX2_bid_X2_requireBidder rfl rfl rfl (by decide +kernel) ⟨Nat.le_of_ble_eq_true rfl, Nat.le_of_ble_eq_true rfl⟩) wB_o rfl rfl rfl (Nat.le_of_ble_eq_true rfl) dX2_bid_2 ⟨Nat.zero_le _, Nat.zero_le _⟩ (z_v ?_)
  refine z_aload_n C dX2_bid_5 0 rfl ?_
  refine z_iload_n C dX2_bid_6 2 rfl ?_
  refine z_callV C (c_X2_requireBundle l g q a bs wb pd gw ha m (by omega) hm) (cwV 1 C.ts gX2_bid_X2_requireBundle rfl rfl rfl (by decide +kernel) ⟨Nat.le_of_ble_eq_true rfl, Nat.le_of_ble_eq_true rfl⟩) wB_o rfl rfl rfl (Nat.le_of_ble_eq_true rfl) dX2_bid_7 ⟨Nat.zero_le _, Nat.zero_le _⟩ (z_v ?_)
  refine z_iload_n C dX2_bid_10 3 rfl ?_
  exact z_xcallS C F (x_X2_requireAmount l g (wB g q a (zG0 a) bs wb pd gw) hl9 x hx) (va_cwS 1 C.ts gX2_bid_X2_requireAmount rfl rfl rfl (by decide +kernel) ⟨Nat.le_of_ble_eq_true rfl, Nat.le_of_ble_eq_true rfl⟩) rfl rfl (Nat.le_of_ble_eq_true rfl) dX2_bid_11 ⟨Nat.le_of_ble_eq_true rfl, Nat.le_of_ble_eq_true rfl⟩ (z_xout C hT (Nat.le_of_ble_eq_true rfl) (Nat.le_of_ble_eq_true rfl))
theorem fxX2_bid_68 : ∀ w ∈ (vx_atS RX2 68 "java/lang/IllegalStateException" ["java/lang/RuntimeException", "java/lang/Exception"]).filter goodWord, w ∈ wsX2_bid := fun w h => List.mem_cons_of_mem _ (List.mem_append_left _ (List.mem_append_left _ (List.mem_append_right _ (h))))
set_option maxRecDepth 100000 in
set_option maxHeartbeats 4000000 in
theorem x_X2_bid_e4 (l : Launch) (g : zG) (q : Nat → Nat) (a : zS) (bs : Nat → Int × Nat) (wb pd gw : Nat → Nat → Int) (hl9 : l.stackTraces = false) (ha : zOk a) (d m x : Nat) (hd : d < zNd a) (hm0 : 0 < m) (hm : m < 2 ^ zNf a) (hx : x ≤ 999) (hb : zNb a = 12) : zX g l yX2_bid wsX2_bid { frames := 7, cells := 1, slots := 6, locals := 111 } [.ref (q 0), .int (nI d), .int (nI m), .int (nI x)] (wB g q a (zG0 a) bs wb pd gw) zISE 1 6 := by
  refine zX.of (cc := cX2_bid) (nL := 5) (ret := (some .int)) (lv := [(0, .ref (q 0)), (1, .int (nI d)), (2, .int (nI m)), (3, .int (nI x))]) (by decide) rfl (Nat.le_of_ble_eq_true rfl) rfl ?_
  intro E C0 F hT
  have C : zC g E cX2_bid RX2 wsX2_bid 5 (some .int) := C0
  obtain ⟨hnf, hnd, hnb, hou, hrs, hbd⟩ := id ha
  refine z_aload_n C dX2_bid_0 0 rfl ?_
  refine z_iload_n C dX2_bid_1 1 rfl ?_
  refine z_callV C (c_X2_requireBidder l g q a bs wb pd gw ha d (by omega)) (cwV 1 C.ts gX2_bid_X2_requireBidder rfl rfl rfl (by decide +kernel) ⟨Nat.le_of_ble_eq_true rfl, Nat.le_of_ble_eq_true rfl⟩) wB_o rfl rfl rfl (Nat.le_of_ble_eq_true rfl) dX2_bid_2 ⟨Nat.zero_le _, Nat.zero_le _⟩ (z_v ?_)
  refine z_aload_n C dX2_bid_5 0 rfl ?_
  refine z_iload_n C dX2_bid_6 2 rfl ?_
  refine z_callV C (c_X2_requireBundle l g q a bs wb pd gw ha m (by omega) hm) (cwV 1 C.ts gX2_bid_X2_requireBundle rfl rfl rfl (by decide +kernel) ⟨Nat.le_of_ble_eq_true rfl, Nat.le_of_ble_eq_true rfl⟩) wB_o rfl rfl rfl (Nat.le_of_ble_eq_true rfl) dX2_bid_7 ⟨Nat.zero_le _, Nat.zero_le _⟩ (z_v ?_)
  refine z_iload_n C dX2_bid_10 3 rfl ?_
  refine z_callS C (c_X2_requireAmount l g (wB g q a (zG0 a) bs wb pd gw) x (by omega)) (va_cwS 1 C.ts gX2_bid_X2_requireAmount rfl rfl rfl (by decide +kernel) ⟨Nat.le_of_ble_eq_true rfl, Nat.le_of_ble_eq_true rfl⟩) rfl rfl (Nat.le_of_ble_eq_true rfl) dX2_bid_11 ⟨Nat.zero_le _, Nat.zero_le _⟩ (z_v ?_)
  refine z_aload_n C dX2_bid_14 0 rfl ?_
  refine z_get C inX2_bid_X2 0 wB_o rfl 10 (by decide) (C.w 3 rfl) rfl dX2_bid_15 ?_
  refine z_bipush C (nI 12) dX2_bid_18 (by decide) ?_
  refine z_icmp_lt C 33 dX2_bid_20 (by decide) (zlt_NN (by omega) (by omega)) (fun h9 => absurd h9 (by omega)) (fun c_20 => ?_)
  exact z_throwS C F hT hl9 (names := ["java/lang/RuntimeException", "java/lang/Exception"]) 2 rfl (by decide +kernel) (by decide +kernel) (C.w 1 rfl) (C.w 2 rfl) fxX2_bid_68 (z_cast C 15 rfl) zth_n68 zth_g68 dX2_bid_23 dX2_bid_26 dX2_bid_27 dX2_bid_29 dX2_bid_32 (Nat.le_of_ble_eq_true rfl) (Nat.le_of_ble_eq_true rfl) (Nat.le_of_ble_eq_true rfl) (Nat.le_of_ble_eq_true rfl) (Nat.le_of_ble_eq_true rfl) (Nat.le_of_ble_eq_true rfl)
set_option maxRecDepth 100000 in
set_option maxHeartbeats 4000000 in
theorem x_X2_setPrice_e1 (l : Launch) (g : zG) (q : Nat → Nat) (a : zS) (bs : Nat → Int × Nat) (wb pd gw : Nat → Nat → Int) (hl9 : l.stackTraces = false) (ha : zOk a) (x x2 : Int32) (hx : zBad x (zNb a)) : zX g l yX2_setPrice wsX2_setPrice { frames := 7, cells := 1, slots := 6, locals := 111 } [.ref (q 0), .int x, .int x2] (wB g q a (zG0 a) bs wb pd gw) zIOB 1 6 := by
  refine zX.of (cc := cX2_setPrice) (nL := 4) (ret := (some .int)) (lv := [(0, .ref (q 0)), (1, .int x), (2, .int x2)]) (by decide) rfl (Nat.le_of_ble_eq_true rfl) rfl ?_
  intro E C0 F hT
  have C : zC g E cX2_setPrice RX2 wsX2_setPrice 4 (some .int) := C0
  obtain ⟨hnf, hnd, hnb, hou, hrs, hbd⟩ := id ha
  refine z_aload_n C dX2_setPrice_0 0 rfl ?_
  refine z_iload_n C dX2_setPrice_1 1 rfl ?_
  exact z_xcallV C F (x_X2_requireBid l g q a bs wb pd gw hl9 ha x hx) (cwV 1 C.ts gX2_setPrice_X2_requireBid rfl rfl rfl (by decide +kernel) ⟨Nat.le_of_ble_eq_true rfl, Nat.le_of_ble_eq_true rfl⟩) wB_o rfl rfl rfl (Nat.le_of_ble_eq_true rfl) dX2_setPrice_2 ⟨Nat.le_of_ble_eq_true rfl, Nat.le_of_ble_eq_true rfl⟩ (z_xout C hT (Nat.le_of_ble_eq_true rfl) (Nat.le_of_ble_eq_true rfl))
set_option maxRecDepth 100000 in
set_option maxHeartbeats 4000000 in
theorem x_X2_setPrice_e2 (l : Launch) (g : zG) (q : Nat → Nat) (a : zS) (bs : Nat → Int × Nat) (wb pd gw : Nat → Nat → Int) (hl9 : l.stackTraces = false) (ha : zOk a) (b : Nat) (x2 : Int32) (hb : b < zNb a) (hx : zBad x2 1000) : zX g l yX2_setPrice wsX2_setPrice { frames := 7, cells := 1, slots := 6, locals := 111 } [.ref (q 0), .int (nI b), .int x2] (wB g q a (zG0 a) bs wb pd gw) zIAE 1 6 := by
  refine zX.of (cc := cX2_setPrice) (nL := 4) (ret := (some .int)) (lv := [(0, .ref (q 0)), (1, .int (nI b)), (2, .int x2)]) (by decide) rfl (Nat.le_of_ble_eq_true rfl) rfl ?_
  intro E C0 F hT
  have C : zC g E cX2_setPrice RX2 wsX2_setPrice 4 (some .int) := C0
  obtain ⟨hnf, hnd, hnb, hou, hrs, hbd⟩ := id ha
  refine z_aload_n C dX2_setPrice_0 0 rfl ?_
  refine z_iload_n C dX2_setPrice_1 1 rfl ?_
  refine z_callV C (c_X2_requireBid l g q a bs wb pd gw ha b (by omega)) (cwV 1 C.ts gX2_setPrice_X2_requireBid rfl rfl rfl (by decide +kernel) ⟨Nat.le_of_ble_eq_true rfl, Nat.le_of_ble_eq_true rfl⟩) wB_o rfl rfl rfl (Nat.le_of_ble_eq_true rfl) dX2_setPrice_2 ⟨Nat.zero_le _, Nat.zero_le _⟩ (z_v ?_)
  refine z_iload_n C dX2_setPrice_5 2 rfl ?_
  exact z_xcallS C F (x_X2_requireAmount l g (wB g q a (zG0 a) bs wb pd gw) hl9 x2 hx) (va_cwS 1 C.ts gX2_setPrice_X2_requireAmount rfl rfl rfl (by decide +kernel) ⟨Nat.le_of_ble_eq_true rfl, Nat.le_of_ble_eq_true rfl⟩) rfl rfl (Nat.le_of_ble_eq_true rfl) dX2_setPrice_6 ⟨Nat.le_of_ble_eq_true rfl, Nat.le_of_ble_eq_true rfl⟩ (z_xout C hT (Nat.le_of_ble_eq_true rfl) (Nat.le_of_ble_eq_true rfl))
set_option maxRecDepth 100000 in
set_option maxHeartbeats 4000000 in
theorem x_X2_setWorth_e1 (l : Launch) (g : zG) (q : Nat → Nat) (a : zS) (bs : Nat → Int × Nat) (wb pd gw : Nat → Nat → Int) (hl9 : l.stackTraces = false) (ha : zOk a) (x x2 : Int32) (hx : zBad x (zNb a)) : zX g l yX2_setWorth wsX2_setWorth { frames := 7, cells := 1, slots := 6, locals := 111 } [.ref (q 0), .int x, .int x2] (wB g q a (zG0 a) bs wb pd gw) zIOB 1 6 := by
  refine zX.of (cc := cX2_setWorth) (nL := 4) (ret := (some .int)) (lv := [(0, .ref (q 0)), (1, .int x), (2, .int x2)]) (by decide) rfl (Nat.le_of_ble_eq_true rfl) rfl ?_
  intro E C0 F hT
  have C : zC g E cX2_setWorth RX2 wsX2_setWorth 4 (some .int) := C0
  obtain ⟨hnf, hnd, hnb, hou, hrs, hbd⟩ := id ha
  refine z_aload_n C dX2_setWorth_0 0 rfl ?_
  refine z_iload_n C dX2_setWorth_1 1 rfl ?_
  exact z_xcallV C F (x_X2_requireBid l g q a bs wb pd gw hl9 ha x hx) (cwV 1 C.ts gX2_setWorth_X2_requireBid rfl rfl rfl (by decide +kernel) ⟨Nat.le_of_ble_eq_true rfl, Nat.le_of_ble_eq_true rfl⟩) wB_o rfl rfl rfl (Nat.le_of_ble_eq_true rfl) dX2_setWorth_2 ⟨Nat.le_of_ble_eq_true rfl, Nat.le_of_ble_eq_true rfl⟩ (z_xout C hT (Nat.le_of_ble_eq_true rfl) (Nat.le_of_ble_eq_true rfl))
set_option maxRecDepth 100000 in
set_option maxHeartbeats 4000000 in
theorem x_X2_setWorth_e2 (l : Launch) (g : zG) (q : Nat → Nat) (a : zS) (bs : Nat → Int × Nat) (wb pd gw : Nat → Nat → Int) (hl9 : l.stackTraces = false) (ha : zOk a) (b : Nat) (x2 : Int32) (hb : b < zNb a) (hx : zBad x2 1000) : zX g l yX2_setWorth wsX2_setWorth { frames := 7, cells := 1, slots := 6, locals := 111 } [.ref (q 0), .int (nI b), .int x2] (wB g q a (zG0 a) bs wb pd gw) zIAE 1 6 := by
  refine zX.of (cc := cX2_setWorth) (nL := 4) (ret := (some .int)) (lv := [(0, .ref (q 0)), (1, .int (nI b)), (2, .int x2)]) (by decide) rfl (Nat.le_of_ble_eq_true rfl) rfl ?_
  intro E C0 F hT
  have C : zC g E cX2_setWorth RX2 wsX2_setWorth 4 (some .int) := C0
  obtain ⟨hnf, hnd, hnb, hou, hrs, hbd⟩ := id ha
  refine z_aload_n C dX2_setWorth_0 0 rfl ?_
  refine z_iload_n C dX2_setWorth_1 1 rfl ?_
  refine z_callV C (c_X2_requireBid l g q a bs wb pd gw ha b (by omega)) (cwV 1 C.ts gX2_setWorth_X2_requireBid rfl rfl rfl (by decide +kernel) ⟨Nat.le_of_ble_eq_true rfl, Nat.le_of_ble_eq_true rfl⟩) wB_o rfl rfl rfl (Nat.le_of_ble_eq_true rfl) dX2_setWorth_2 ⟨Nat.zero_le _, Nat.zero_le _⟩ (z_v ?_)
  refine z_iload_n C dX2_setWorth_5 2 rfl ?_
  exact z_xcallS C F (x_X2_requireAmount l g (wB g q a (zG0 a) bs wb pd gw) hl9 x2 hx) (va_cwS 1 C.ts gX2_setWorth_X2_requireAmount rfl rfl rfl (by decide +kernel) ⟨Nat.le_of_ble_eq_true rfl, Nat.le_of_ble_eq_true rfl⟩) rfl rfl (Nat.le_of_ble_eq_true rfl) dX2_setWorth_6 ⟨Nat.le_of_ble_eq_true rfl, Nat.le_of_ble_eq_true rfl⟩ (z_xout C hT (Nat.le_of_ble_eq_true rfl) (Nat.le_of_ble_eq_true rfl))
set_option maxRecDepth 100000 in
set_option maxHeartbeats 4000000 in
theorem x_X2_withdraw_e1 (l : Launch) (g : zG) (q : Nat → Nat) (a : zS) (bs : Nat → Int × Nat) (wb pd gw : Nat → Nat → Int) (hl9 : l.stackTraces = false) (ha : zOk a) (x : Int32) (hx : zBad x (zNb a)) : zX g l yX2_withdraw wsX2_withdraw { frames := 7, cells := 1, slots := 6, locals := 111 } [.ref (q 0), .int x] (wB g q a (zG0 a) bs wb pd gw) zIOB 1 6 := by
  refine zX.of (cc := cX2_withdraw) (nL := 2) (ret := (some .int)) (lv := [(0, .ref (q 0)), (1, .int x)]) (by decide) rfl (Nat.le_of_ble_eq_true rfl) rfl ?_
  intro E C0 F hT
  have C : zC g E cX2_withdraw RX2 wsX2_withdraw 2 (some .int) := C0
  obtain ⟨hnf, hnd, hnb, hou, hrs, hbd⟩ := id ha
  refine z_aload_n C dX2_withdraw_0 0 rfl ?_
  refine z_iload_n C dX2_withdraw_1 1 rfl ?_
  exact z_xcallV C F (x_X2_requireBid l g q a bs wb pd gw hl9 ha x hx) (cwV 1 C.ts gX2_withdraw_X2_requireBid rfl rfl rfl (by decide +kernel) ⟨Nat.le_of_ble_eq_true rfl, Nat.le_of_ble_eq_true rfl⟩) wB_o rfl rfl rfl (Nat.le_of_ble_eq_true rfl) dX2_withdraw_2 ⟨Nat.le_of_ble_eq_true rfl, Nat.le_of_ble_eq_true rfl⟩ (z_xout C hT (Nat.le_of_ble_eq_true rfl) (Nat.le_of_ble_eq_true rfl))
theorem fxX2_withdraw_68 : ∀ w ∈ (vx_atS RX2 68 "java/lang/IllegalStateException" ["java/lang/RuntimeException", "java/lang/Exception"]).filter goodWord, w ∈ wsX2_withdraw := fun w h => List.mem_cons_of_mem _ (List.mem_append_left _ (List.mem_append_right _ (h)))
set_option maxRecDepth 100000 in
set_option maxHeartbeats 4000000 in
theorem x_X2_withdraw_e2 (l : Launch) (g : zG) (q : Nat → Nat) (a : zS) (bs : Nat → Int × Nat) (wb pd gw : Nat → Nat → Int) (hl9 : l.stackTraces = false) (ha : zOk a) (b : Nat) (hb : b < zNb a) (hg : ¬ zGo a b = 0) : zX g l yX2_withdraw wsX2_withdraw { frames := 7, cells := 1, slots := 6, locals := 111 } [.ref (q 0), .int (nI b)] (wB g q a (zG0 a) bs wb pd gw) zISE 1 6 := by
  refine zX.of (cc := cX2_withdraw) (nL := 2) (ret := (some .int)) (lv := [(0, .ref (q 0)), (1, .int (nI b))]) (by decide) rfl (Nat.le_of_ble_eq_true rfl) rfl ?_
  intro E C0 F hT
  have C : zC g E cX2_withdraw RX2 wsX2_withdraw 2 (some .int) := C0
  obtain ⟨hnf, hnd, hnb, hou, hrs, hbd⟩ := id ha
  refine z_aload_n C dX2_withdraw_0 0 rfl ?_
  refine z_iload_n C dX2_withdraw_1 1 rfl ?_
  refine z_callV C (c_X2_requireBid l g q a bs wb pd gw ha b (by omega)) (cwV 1 C.ts gX2_withdraw_X2_requireBid rfl rfl rfl (by decide +kernel) ⟨Nat.le_of_ble_eq_true rfl, Nat.le_of_ble_eq_true rfl⟩) wB_o rfl rfl rfl (Nat.le_of_ble_eq_true rfl) dX2_withdraw_2 ⟨Nat.zero_le _, Nat.zero_le _⟩ (z_v ?_)
  refine z_aload_n C dX2_withdraw_5 0 rfl ?_
  refine z_get C inX2_withdraw_X2 0 wB_o rfl 9 (by decide) (C.w 3 rfl) rfl dX2_withdraw_6 ?_
  refine z_iload_n C dX2_withdraw_9 1 rfl ?_
  refine z_zaldN C 8 wB_go (by omega) (by decide) dX2_withdraw_10 (v := nI (zGo a b)) rfl ?_
  have f_10b := (ha.go (b := b) (by omega))
  refine z_if_eq C 24 dX2_withdraw_11 (by decide) (zeq_N0 (by omega)) (fun h9 => absurd h9 hg) (fun c_11 => ?_)
  exact z_throwS C F hT hl9 (names := ["java/lang/RuntimeException", "java/lang/Exception"]) 3 rfl (by decide +kernel) (by decide +kernel) (C.w 1 rfl) (C.w 2 rfl) fxX2_withdraw_68 (z_cast C 15 rfl) zth_n68 zth_g68 dX2_withdraw_14 dX2_withdraw_17 dX2_withdraw_18 dX2_withdraw_20 dX2_withdraw_23 (Nat.le_of_ble_eq_true rfl) (Nat.le_of_ble_eq_true rfl) (Nat.le_of_ble_eq_true rfl) (Nat.le_of_ble_eq_true rfl) (Nat.le_of_ble_eq_true rfl) (Nat.le_of_ble_eq_true rfl)
set_option maxRecDepth 100000 in
set_option maxHeartbeats 4000000 in
theorem x_X2_told_e1 (l : Launch) (g : zG) (q : Nat → Nat) (a : zS) (bs : Nat → Int × Nat) (wb pd gw : Nat → Nat → Int) (hl9 : l.stackTraces = false) (ha : zOk a) (x x2 : Int32) (hx : zBad x (zNb a)) : zX g l yX2_told wsX2_told { frames := 7, cells := 1, slots := 6, locals := 111 } [.ref (q 0), .int x, .int x2] (wB g q a (zG0 a) bs wb pd gw) zIOB 1 6 := by
  refine zX.of (cc := cX2_told) (nL := 3) (ret := (some .int)) (lv := [(0, .ref (q 0)), (1, .int x), (2, .int x2)]) (by decide) rfl (Nat.le_of_ble_eq_true rfl) rfl ?_
  intro E C0 F hT
  have C : zC g E cX2_told RX2 wsX2_told 3 (some .int) := C0
  obtain ⟨hnf, hnd, hnb, hou, hrs, hbd⟩ := id ha
  refine z_aload_n C dX2_told_0 0 rfl ?_
  refine z_iload_n C dX2_told_1 1 rfl ?_
  exact z_xcallV C F (x_X2_requireBid l g q a bs wb pd gw hl9 ha x hx) (cwV 1 C.ts gX2_told_X2_requireBid rfl rfl rfl (by decide +kernel) ⟨Nat.le_of_ble_eq_true rfl, Nat.le_of_ble_eq_true rfl⟩) wB_o rfl rfl rfl (Nat.le_of_ble_eq_true rfl) dX2_told_2 ⟨Nat.le_of_ble_eq_true rfl, Nat.le_of_ble_eq_true rfl⟩ (z_xout C hT (Nat.le_of_ble_eq_true rfl) (Nat.le_of_ble_eq_true rfl))
set_option maxRecDepth 100000 in
set_option maxHeartbeats 4000000 in
theorem x_X2_told_e2 (l : Launch) (g : zG) (q : Nat → Nat) (a : zS) (bs : Nat → Int × Nat) (wb pd gw : Nat → Nat → Int) (hl9 : l.stackTraces = false) (ha : zOk a) (j : Nat) (x : Int32) (hj : j < zNb a) (hx : zBad x 8) : zX g l yX2_told wsX2_told { frames := 7, cells := 1, slots := 6, locals := 111 } [.ref (q 0), .int (nI j), .int x] (wB g q a (zG0 a) bs wb pd gw) zIOB 1 6 := by
  refine zX.of (cc := cX2_told) (nL := 3) (ret := (some .int)) (lv := [(0, .ref (q 0)), (1, .int (nI j)), (2, .int x)]) (by decide) rfl (Nat.le_of_ble_eq_true rfl) rfl ?_
  intro E C0 F hT
  have C : zC g E cX2_told RX2 wsX2_told 3 (some .int) := C0
  obtain ⟨hnf, hnd, hnb, hou, hrs, hbd⟩ := id ha
  refine z_aload_n C dX2_told_0 0 rfl ?_
  refine z_iload_n C dX2_told_1 1 rfl ?_
  refine z_callV C (c_X2_requireBid l g q a bs wb pd gw ha j (by omega)) (cwV 1 C.ts gX2_told_X2_requireBid rfl rfl rfl (by decide +kernel) ⟨Nat.le_of_ble_eq_true rfl, Nat.le_of_ble_eq_true rfl⟩) wB_o rfl rfl rfl (Nat.le_of_ble_eq_true rfl) dX2_told_2 ⟨Nat.zero_le _, Nat.zero_le _⟩ (z_v ?_)
  refine z_iload_n C dX2_told_5 2 rfl ?_
  refine z_bipush C (nI 7) dX2_told_6 (by decide) ?_
  exact z_xcallS C F (x_X2_requireWhat l g (wB g q a (zG0 a) bs wb pd gw) hl9 x 7 (by decide) hx) (va_cwS 2 C.ts gX2_told_X2_requireWhat rfl rfl rfl (by decide +kernel) ⟨Nat.le_of_ble_eq_true rfl, Nat.le_of_ble_eq_true rfl⟩) rfl rfl (Nat.le_of_ble_eq_true rfl) dX2_told_8 ⟨Nat.le_of_ble_eq_true rfl, Nat.le_of_ble_eq_true rfl⟩ (z_xout C hT (Nat.le_of_ble_eq_true rfl) (Nat.le_of_ble_eq_true rfl))
set_option maxRecDepth 100000 in
set_option maxHeartbeats 4000000 in
theorem x_X2_about_e1 (l : Launch) (g : zG) (q : Nat → Nat) (a : zS) (bs : Nat → Int × Nat) (wb pd gw : Nat → Nat → Int) (hl9 : l.stackTraces = false) (ha : zOk a) (x x2 : Int32) (hx : zBad x (zNd a)) : zX g l yX2_about wsX2_about { frames := 7, cells := 1, slots := 6, locals := 111 } [.ref (q 0), .int x, .int x2] (wB g q a (zG0 a) bs wb pd gw) zIOB 1 6 := by
  refine zX.of (cc := cX2_about) (nL := 3) (ret := (some .int)) (lv := [(0, .ref (q 0)), (1, .int x), (2, .int x2)]) (by decide) rfl (Nat.le_of_ble_eq_true rfl) rfl ?_
  intro E C0 F hT
  have C : zC g E cX2_about RX2 wsX2_about 3 (some .int) := C0
  obtain ⟨hnf, hnd, hnb, hou, hrs, hbd⟩ := id ha
  refine z_aload_n C dX2_about_0 0 rfl ?_
  refine z_iload_n C dX2_about_1 1 rfl ?_
  exact z_xcallV C F (x_X2_requireBidder l g q a bs wb pd gw hl9 ha x hx) (cwV 1 C.ts gX2_about_X2_requireBidder rfl rfl rfl (by decide +kernel) ⟨Nat.le_of_ble_eq_true rfl, Nat.le_of_ble_eq_true rfl⟩) wB_o rfl rfl rfl (Nat.le_of_ble_eq_true rfl) dX2_about_2 ⟨Nat.le_of_ble_eq_true rfl, Nat.le_of_ble_eq_true rfl⟩ (z_xout C hT (Nat.le_of_ble_eq_true rfl) (Nat.le_of_ble_eq_true rfl))
set_option maxRecDepth 100000 in
set_option maxHeartbeats 4000000 in
theorem x_X2_about_e2 (l : Launch) (g : zG) (q : Nat → Nat) (a : zS) (bs : Nat → Int × Nat) (wb pd gw : Nat → Nat → Int) (hl9 : l.stackTraces = false) (ha : zOk a) (j : Nat) (x : Int32) (hj : j < zNd a) (hx : zBad x 6) : zX g l yX2_about wsX2_about { frames := 7, cells := 1, slots := 6, locals := 111 } [.ref (q 0), .int (nI j), .int x] (wB g q a (zG0 a) bs wb pd gw) zIOB 1 6 := by
  refine zX.of (cc := cX2_about) (nL := 3) (ret := (some .int)) (lv := [(0, .ref (q 0)), (1, .int (nI j)), (2, .int x)]) (by decide) rfl (Nat.le_of_ble_eq_true rfl) rfl ?_
  intro E C0 F hT
  have C : zC g E cX2_about RX2 wsX2_about 3 (some .int) := C0
  obtain ⟨hnf, hnd, hnb, hou, hrs, hbd⟩ := id ha
  refine z_aload_n C dX2_about_0 0 rfl ?_
  refine z_iload_n C dX2_about_1 1 rfl ?_
  refine z_callV C (c_X2_requireBidder l g q a bs wb pd gw ha j (by omega)) (cwV 1 C.ts gX2_about_X2_requireBidder rfl rfl rfl (by decide +kernel) ⟨Nat.le_of_ble_eq_true rfl, Nat.le_of_ble_eq_true rfl⟩) wB_o rfl rfl rfl (Nat.le_of_ble_eq_true rfl) dX2_about_2 ⟨Nat.zero_le _, Nat.zero_le _⟩ (z_v ?_)
  refine z_iload_n C dX2_about_5 2 rfl ?_
  refine z_iconst C (nI 5) dX2_about_6 (by decide) ?_
  exact z_xcallS C F (x_X2_requireWhat l g (wB g q a (zG0 a) bs wb pd gw) hl9 x 5 (by decide) hx) (va_cwS 2 C.ts gX2_about_X2_requireWhat rfl rfl rfl (by decide +kernel) ⟨Nat.le_of_ble_eq_true rfl, Nat.le_of_ble_eq_true rfl⟩) rfl rfl (Nat.le_of_ble_eq_true rfl) dX2_about_7 ⟨Nat.le_of_ble_eq_true rfl, Nat.le_of_ble_eq_true rfl⟩ (z_xout C hT (Nat.le_of_ble_eq_true rfl) (Nat.le_of_ble_eq_true rfl))
set_option maxRecDepth 100000 in
set_option maxHeartbeats 4000000 in
theorem x_X2_land_e1 (l : Launch) (g : zG) (q : Nat → Nat) (a : zS) (bs : Nat → Int × Nat) (wb pd gw : Nat → Nat → Int) (hl9 : l.stackTraces = false) (ha : zOk a) (x x2 : Int32) (hx : zBad x (zNf a)) : zX g l yX2_land wsX2_land { frames := 7, cells := 1, slots := 6, locals := 111 } [.ref (q 0), .int x, .int x2] (wB g q a (zG0 a) bs wb pd gw) zIOB 1 6 := by
  refine zX.of (cc := cX2_land) (nL := 3) (ret := (some .int)) (lv := [(0, .ref (q 0)), (1, .int x), (2, .int x2)]) (by decide) rfl (Nat.le_of_ble_eq_true rfl) rfl ?_
  intro E C0 F hT
  have C : zC g E cX2_land RX2 wsX2_land 3 (some .int) := C0
  obtain ⟨hnf, hnd, hnb, hou, hrs, hbd⟩ := id ha
  refine z_aload_n C dX2_land_0 0 rfl ?_
  refine z_iload_n C dX2_land_1 1 rfl ?_
  exact z_xcallV C F (x_X2_requireField l g q a bs wb pd gw hl9 ha x hx) (cwV 1 C.ts gX2_land_X2_requireField rfl rfl rfl (by decide +kernel) ⟨Nat.le_of_ble_eq_true rfl, Nat.le_of_ble_eq_true rfl⟩) wB_o rfl rfl rfl (Nat.le_of_ble_eq_true rfl) dX2_land_2 ⟨Nat.le_of_ble_eq_true rfl, Nat.le_of_ble_eq_true rfl⟩ (z_xout C hT (Nat.le_of_ble_eq_true rfl) (Nat.le_of_ble_eq_true rfl))
set_option maxRecDepth 100000 in
set_option maxHeartbeats 4000000 in
theorem x_X2_land_e2 (l : Launch) (g : zG) (q : Nat → Nat) (a : zS) (bs : Nat → Int × Nat) (wb pd gw : Nat → Nat → Int) (hl9 : l.stackTraces = false) (ha : zOk a) (j : Nat) (x : Int32) (hj : j < zNf a) (hx : zBad x 3) : zX g l yX2_land wsX2_land { frames := 7, cells := 1, slots := 6, locals := 111 } [.ref (q 0), .int (nI j), .int x] (wB g q a (zG0 a) bs wb pd gw) zIOB 1 6 := by
  refine zX.of (cc := cX2_land) (nL := 3) (ret := (some .int)) (lv := [(0, .ref (q 0)), (1, .int (nI j)), (2, .int x)]) (by decide) rfl (Nat.le_of_ble_eq_true rfl) rfl ?_
  intro E C0 F hT
  have C : zC g E cX2_land RX2 wsX2_land 3 (some .int) := C0
  obtain ⟨hnf, hnd, hnb, hou, hrs, hbd⟩ := id ha
  refine z_aload_n C dX2_land_0 0 rfl ?_
  refine z_iload_n C dX2_land_1 1 rfl ?_
  refine z_callV C (c_X2_requireField l g q a bs wb pd gw ha j (by omega)) (cwV 1 C.ts gX2_land_X2_requireField rfl rfl rfl (by decide +kernel) ⟨Nat.le_of_ble_eq_true rfl, Nat.le_of_ble_eq_true rfl⟩) wB_o rfl rfl rfl (Nat.le_of_ble_eq_true rfl) dX2_land_2 ⟨Nat.zero_le _, Nat.zero_le _⟩ (z_v ?_)
  refine z_iload_n C dX2_land_5 2 rfl ?_
  refine z_iconst C (nI 2) dX2_land_6 (by decide) ?_
  exact z_xcallS C F (x_X2_requireWhat l g (wB g q a (zG0 a) bs wb pd gw) hl9 x 2 (by decide) hx) (va_cwS 2 C.ts gX2_land_X2_requireWhat rfl rfl rfl (by decide +kernel) ⟨Nat.le_of_ble_eq_true rfl, Nat.le_of_ble_eq_true rfl⟩) rfl rfl (Nat.le_of_ble_eq_true rfl) dX2_land_7 ⟨Nat.le_of_ble_eq_true rfl, Nat.le_of_ble_eq_true rfl⟩ (z_xout C hT (Nat.le_of_ble_eq_true rfl) (Nat.le_of_ble_eq_true rfl))
set_option maxRecDepth 100000 in
set_option maxHeartbeats 4000000 in
theorem x_X2_alone_e1 (l : Launch) (g : zG) (q : Nat → Nat) (a : zS) (bs : Nat → Int × Nat) (wb pd gw : Nat → Nat → Int) (hl9 : l.stackTraces = false) (ha : zOk a) (x x2 : Int32) (hx : zBad x (zNf a)) : zX g l yX2_alone wsX2_alone { frames := 7, cells := 1, slots := 6, locals := 111 } [.ref (q 0), .int x, .int x2] (wB g q a (zG0 a) bs wb pd gw) zIOB 1 6 := by
  refine zX.of (cc := cX2_alone) (nL := 4) (ret := (some .int)) (lv := [(0, .ref (q 0)), (1, .int x), (2, .int x2)]) (by decide) rfl (Nat.le_of_ble_eq_true rfl) rfl ?_
  intro E C0 F hT
  have C : zC g E cX2_alone RX2 wsX2_alone 4 (some .int) := C0
  obtain ⟨hnf, hnd, hnb, hou, hrs, hbd⟩ := id ha
  refine z_aload_n C dX2_alone_0 0 rfl ?_
  refine z_iload_n C dX2_alone_1 1 rfl ?_
  exact z_xcallV C F (x_X2_requireField l g q a bs wb pd gw hl9 ha x hx) (cwV 1 C.ts gX2_alone_X2_requireField rfl rfl rfl (by decide +kernel) ⟨Nat.le_of_ble_eq_true rfl, Nat.le_of_ble_eq_true rfl⟩) wB_o rfl rfl rfl (Nat.le_of_ble_eq_true rfl) dX2_alone_2 ⟨Nat.le_of_ble_eq_true rfl, Nat.le_of_ble_eq_true rfl⟩ (z_xout C hT (Nat.le_of_ble_eq_true rfl) (Nat.le_of_ble_eq_true rfl))
set_option maxRecDepth 100000 in
set_option maxHeartbeats 4000000 in
theorem x_X2_alone_e2 (l : Launch) (g : zG) (q : Nat → Nat) (a : zS) (bs : Nat → Int × Nat) (wb pd gw : Nat → Nat → Int) (hl9 : l.stackTraces = false) (ha : zOk a) (j : Nat) (x : Int32) (hj : j < zNf a) (hx : zBad x 3) : zX g l yX2_alone wsX2_alone { frames := 7, cells := 1, slots := 6, locals := 111 } [.ref (q 0), .int (nI j), .int x] (wB g q a (zG0 a) bs wb pd gw) zIOB 1 6 := by
  refine zX.of (cc := cX2_alone) (nL := 4) (ret := (some .int)) (lv := [(0, .ref (q 0)), (1, .int (nI j)), (2, .int x)]) (by decide) rfl (Nat.le_of_ble_eq_true rfl) rfl ?_
  intro E C0 F hT
  have C : zC g E cX2_alone RX2 wsX2_alone 4 (some .int) := C0
  obtain ⟨hnf, hnd, hnb, hou, hrs, hbd⟩ := id ha
  refine z_aload_n C dX2_alone_0 0 rfl ?_
  refine z_iload_n C dX2_alone_1 1 rfl ?_
  refine z_callV C (c_X2_requireField l g q a bs wb pd gw ha j (by omega)) (cwV 1 C.ts gX2_alone_X2_requireField rfl rfl rfl (by decide +kernel) ⟨Nat.le_of_ble_eq_true rfl, Nat.le_of_ble_eq_true rfl⟩) wB_o rfl rfl rfl (Nat.le_of_ble_eq_true rfl) dX2_alone_2 ⟨Nat.zero_le _, Nat.zero_le _⟩ (z_v ?_)
  refine z_iload_n C dX2_alone_5 2 rfl ?_
  refine z_iconst C (nI 2) dX2_alone_6 (by decide) ?_
  exact z_xcallS C F (x_X2_requireWhat l g (wB g q a (zG0 a) bs wb pd gw) hl9 x 2 (by decide) hx) (va_cwS 2 C.ts gX2_alone_X2_requireWhat rfl rfl rfl (by decide +kernel) ⟨Nat.le_of_ble_eq_true rfl, Nat.le_of_ble_eq_true rfl⟩) rfl rfl (Nat.le_of_ble_eq_true rfl) dX2_alone_7 ⟨Nat.le_of_ble_eq_true rfl, Nat.le_of_ble_eq_true rfl⟩ (z_xout C hT (Nat.le_of_ble_eq_true rfl) (Nat.le_of_ble_eq_true rfl))
set_option maxRecDepth 100000 in
set_option maxHeartbeats 4000000 in
theorem x_X2_count_e1 (l : Launch) (g : zG) (q : Nat → Nat) (a : zS) (bs : Nat → Int × Nat) (wb pd gw : Nat → Nat → Int) (hl9 : l.stackTraces = false) (ha : zOk a) (x : Int32) (hx : zBad x 9) : zX g l yX2_count wsX2_count { frames := 7, cells := 1, slots := 6, locals := 111 } [.ref (q 0), .int x] (wB g q a (zG0 a) bs wb pd gw) zIOB 1 6 := by
  refine zX.of (cc := cX2_count) (nL := 2) (ret := (some .int)) (lv := [(0, .ref (q 0)), (1, .int x)]) (by decide) rfl (Nat.le_of_ble_eq_true rfl) rfl ?_
  intro E C0 F hT
  have C : zC g E cX2_count RX2 wsX2_count 2 (some .int) := C0
  obtain ⟨hnf, hnd, hnb, hou, hrs, hbd⟩ := id ha
  refine z_iload_n C dX2_count_0 1 rfl ?_
  refine z_bipush C (nI 8) dX2_count_1 (by decide) ?_
  exact z_xcallS C F (x_X2_requireWhat l g (wB g q a (zG0 a) bs wb pd gw) hl9 x 8 (by decide) hx) (va_cwS 2 C.ts gX2_count_X2_requireWhat rfl rfl rfl (by decide +kernel) ⟨Nat.le_of_ble_eq_true rfl, Nat.le_of_ble_eq_true rfl⟩) rfl rfl (Nat.le_of_ble_eq_true rfl) dX2_count_3 ⟨Nat.le_of_ble_eq_true rfl, Nat.le_of_ble_eq_true rfl⟩ (z_xout C hT (Nat.le_of_ble_eq_true rfl) (Nat.le_of_ble_eq_true rfl))
set_option maxRecDepth 100000 in
set_option maxHeartbeats 4000000 in
theorem x_X2_would_e1 (l : Launch) (g : zG) (q : Nat → Nat) (a : zS) (bs : Nat → Int × Nat) (wb pd gw : Nat → Nat → Int) (hl9 : l.stackTraces = false) (ha : zOk a) (x x2 x3 : Int32) (hx : zBad x (zNb a)) : zX g l yX2_would wsX2_would { frames := 7, cells := 1, slots := 6, locals := 111 } [.ref (q 0), .int x, .int x2, .int x3] (wB g q a (zG0 a) bs wb pd gw) zIOB 1 6 := by
  refine zX.of (cc := cX2_would) (nL := 5) (ret := (some .int)) (lv := [(0, .ref (q 0)), (1, .int x), (2, .int x2), (3, .int x3)]) (by decide) rfl (Nat.le_of_ble_eq_true rfl) rfl ?_
  intro E C0 F hT
  have C : zC g E cX2_would RX2 wsX2_would 5 (some .int) := C0
  obtain ⟨hnf, hnd, hnb, hou, hrs, hbd⟩ := id ha
  refine z_aload_n C dX2_would_0 0 rfl ?_
  refine z_iload_n C dX2_would_1 1 rfl ?_
  exact z_xcallV C F (x_X2_requireBid l g q a bs wb pd gw hl9 ha x hx) (cwV 1 C.ts gX2_would_X2_requireBid rfl rfl rfl (by decide +kernel) ⟨Nat.le_of_ble_eq_true rfl, Nat.le_of_ble_eq_true rfl⟩) wB_o rfl rfl rfl (Nat.le_of_ble_eq_true rfl) dX2_would_2 ⟨Nat.le_of_ble_eq_true rfl, Nat.le_of_ble_eq_true rfl⟩ (z_xout C hT (Nat.le_of_ble_eq_true rfl) (Nat.le_of_ble_eq_true rfl))
set_option maxRecDepth 100000 in
set_option maxHeartbeats 4000000 in
theorem x_X2_would_e2 (l : Launch) (g : zG) (q : Nat → Nat) (a : zS) (bs : Nat → Int × Nat) (wb pd gw : Nat → Nat → Int) (hl9 : l.stackTraces = false) (ha : zOk a) (b : Nat) (x x2 : Int32) (hb : b < zNb a) (hx : zBad x2 4) : zX g l yX2_would wsX2_would { frames := 7, cells := 1, slots := 6, locals := 111 } [.ref (q 0), .int (nI b), .int x, .int x2] (wB g q a (zG0 a) bs wb pd gw) zIOB 1 6 := by
  refine zX.of (cc := cX2_would) (nL := 5) (ret := (some .int)) (lv := [(0, .ref (q 0)), (1, .int (nI b)), (2, .int x), (3, .int x2)]) (by decide) rfl (Nat.le_of_ble_eq_true rfl) rfl ?_
  intro E C0 F hT
  have C : zC g E cX2_would RX2 wsX2_would 5 (some .int) := C0
  obtain ⟨hnf, hnd, hnb, hou, hrs, hbd⟩ := id ha
  refine z_aload_n C dX2_would_0 0 rfl ?_
  refine z_iload_n C dX2_would_1 1 rfl ?_
  refine z_callV C (c_X2_requireBid l g q a bs wb pd gw ha b (by omega)) (cwV 1 C.ts gX2_would_X2_requireBid rfl rfl rfl (by decide +kernel) ⟨Nat.le_of_ble_eq_true rfl, Nat.le_of_ble_eq_true rfl⟩) wB_o rfl rfl rfl (Nat.le_of_ble_eq_true rfl) dX2_would_2 ⟨Nat.zero_le _, Nat.zero_le _⟩ (z_v ?_)
  refine z_iload_n C dX2_would_5 3 rfl ?_
  refine z_iconst C (nI 3) dX2_would_6 (by decide) ?_
  exact z_xcallS C F (x_X2_requireWhat l g (wB g q a (zG0 a) bs wb pd gw) hl9 x2 3 (by decide) hx) (va_cwS 2 C.ts gX2_would_X2_requireWhat rfl rfl rfl (by decide +kernel) ⟨Nat.le_of_ble_eq_true rfl, Nat.le_of_ble_eq_true rfl⟩) rfl rfl (Nat.le_of_ble_eq_true rfl) dX2_would_7 ⟨Nat.le_of_ble_eq_true rfl, Nat.le_of_ble_eq_true rfl⟩ (z_xout C hT (Nat.le_of_ble_eq_true rfl) (Nat.le_of_ble_eq_true rfl))
set_option maxRecDepth 100000 in
set_option maxHeartbeats 4000000 in
theorem x_X2_would_e3 (l : Launch) (g : zG) (q : Nat → Nat) (a : zS) (bs : Nat → Int × Nat) (wb pd gw : Nat → Nat → Int) (hl9 : l.stackTraces = false) (ha : zOk a) (b : Nat) (x : Int32) (w : Nat) (hb : b < zNb a) (hw : w ≤ 3) (hx : zBad x 1000) : zX g l yX2_would wsX2_would { frames := 7, cells := 1, slots := 6, locals := 111 } [.ref (q 0), .int (nI b), .int x, .int (nI w)] (wB g q a (zG0 a) bs wb pd gw) zIAE 1 6 := by
  refine zX.of (cc := cX2_would) (nL := 5) (ret := (some .int)) (lv := [(0, .ref (q 0)), (1, .int (nI b)), (2, .int x), (3, .int (nI w))]) (by decide) rfl (Nat.le_of_ble_eq_true rfl) rfl ?_
  intro E C0 F hT
  have C : zC g E cX2_would RX2 wsX2_would 5 (some .int) := C0
  obtain ⟨hnf, hnd, hnb, hou, hrs, hbd⟩ := id ha
  refine z_aload_n C dX2_would_0 0 rfl ?_
  refine z_iload_n C dX2_would_1 1 rfl ?_
  refine z_callV C (c_X2_requireBid l g q a bs wb pd gw ha b (by omega)) (cwV 1 C.ts gX2_would_X2_requireBid rfl rfl rfl (by decide +kernel) ⟨Nat.le_of_ble_eq_true rfl, Nat.le_of_ble_eq_true rfl⟩) wB_o rfl rfl rfl (Nat.le_of_ble_eq_true rfl) dX2_would_2 ⟨Nat.zero_le _, Nat.zero_le _⟩ (z_v ?_)
  refine z_iload_n C dX2_would_5 3 rfl ?_
  refine z_iconst C (nI 3) dX2_would_6 (by decide) ?_
  refine z_callS C (c_X2_requireWhat l g (wB g q a (zG0 a) bs wb pd gw) w 3 (by omega) (by omega)) (va_cwS 2 C.ts gX2_would_X2_requireWhat rfl rfl rfl (by decide +kernel) ⟨Nat.le_of_ble_eq_true rfl, Nat.le_of_ble_eq_true rfl⟩) rfl rfl (Nat.le_of_ble_eq_true rfl) dX2_would_7 ⟨Nat.zero_le _, Nat.zero_le _⟩ (z_v ?_)
  refine z_iload_n C dX2_would_10 2 rfl ?_
  exact z_xcallS C F (x_X2_requireAmount l g (wB g q a (zG0 a) bs wb pd gw) hl9 x hx) (va_cwS 1 C.ts gX2_would_X2_requireAmount rfl rfl rfl (by decide +kernel) ⟨Nat.le_of_ble_eq_true rfl, Nat.le_of_ble_eq_true rfl⟩) rfl rfl (Nat.le_of_ble_eq_true rfl) dX2_would_11 ⟨Nat.le_of_ble_eq_true rfl, Nat.le_of_ble_eq_true rfl⟩ (z_xout C hT (Nat.le_of_ble_eq_true rfl) (Nat.le_of_ble_eq_true rfl))
set_option maxRecDepth 100000 in
set_option maxHeartbeats 4000000 in
theorem x_X2_least_e1 (l : Launch) (g : zG) (q : Nat → Nat) (a : zS) (bs : Nat → Int × Nat) (wb pd gw : Nat → Nat → Int) (hl9 : l.stackTraces = false) (ha : zOk a) (x : Int32) (hx : zBad x (zNb a)) : zX g l yX2_least wsX2_least { frames := 7, cells := 1, slots := 6, locals := 111 } [.ref (q 0), .int x] (wB g q a (zG0 a) bs wb pd gw) zIOB 1 6 := by
  refine zX.of (cc := cX2_least) (nL := 6) (ret := (some .int)) (lv := [(0, .ref (q 0)), (1, .int x)]) (by decide) rfl (Nat.le_of_ble_eq_true rfl) rfl ?_
  intro E C0 F hT
  have C : zC g E cX2_least RX2 wsX2_least 6 (some .int) := C0
  obtain ⟨hnf, hnd, hnb, hou, hrs, hbd⟩ := id ha
  refine z_aload_n C dX2_least_0 0 rfl ?_
  refine z_iload_n C dX2_least_1 1 rfl ?_
  exact z_xcallV C F (x_X2_requireBid l g q a bs wb pd gw hl9 ha x hx) (cwV 1 C.ts gX2_least_X2_requireBid rfl rfl rfl (by decide +kernel) ⟨Nat.le_of_ble_eq_true rfl, Nat.le_of_ble_eq_true rfl⟩) wB_o rfl rfl rfl (Nat.le_of_ble_eq_true rfl) dX2_least_2 ⟨Nat.le_of_ble_eq_true rfl, Nat.le_of_ble_eq_true rfl⟩ (z_xout C hT (Nat.le_of_ble_eq_true rfl) (Nat.le_of_ble_eq_true rfl))
