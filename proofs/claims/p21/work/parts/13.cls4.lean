/-- a void answer, of the world only a proposition -/
def zPe (P : va_W → Prop) : Option Value → va_W → Prop := fun v w' => v = none ∧ P w'
theorem z_e {g : zG} {l : Launch} {R : Room} {E : zEnv} {Q : State → Prop} {nL cells slots : Nat} {lv : List (Nat × Value)} {rest : List Value} {pc : Nat} {P : va_W → Prop} (kk : ∀ w', P w' → zW g l R E Q nL cells slots w' lv rest pc) : ∀ v w', zPe P v w' → zW g l R E Q nL (cells + 0) (slots + 0) w' lv (v.toList ++ rest) pc := by
  rintro _ w' ⟨rfl, h⟩; exact kk w' h
theorem z_eret {g : zG} {l : Launch} {R : Room} {E : zEnv} {nL cells slots : Nat} {ws : va_W} {lv : List (Nat × Value)} {pc : Nat} {cc : ByteArray} {own : String} {Ts : List Cond} {P : va_W → Prop} (C : zC g E cc own Ts nL none) (d : decode cc pc = .ok (.return_, 1)) (hp : P ws) : zW g l R E (zMQ g E (zPe P) cells slots) nL cells slots ws lv [] pc := z_vret C d ⟨rfl, hp⟩
theorem zCons_00 : zCons ((0 : Int), (0 : Nat)) (0, 0) = (0, 0) := by decide
/-- the best set of bids, with these bidders taken -/
def zFw (a : zS) (ab : Nat) : Int × Nat := zDfs a (zNb a) (0, 0) 0 0 ab 0 0
theorem zFw_ok {a : zS} (ha : zOk a) (ab : Nat) : zXok (zFw a ab) := zDfs_ok ha _ _ _ _ _ _ _ (by omega) ⟨by decide, by decide, by decide⟩ (by omega) (by omega) (by decide)
def zGw (a : zS) (ab d : Nat) : Int := if d < zNd a then (zFw a (ab ||| 2 ^ d)).1 else 0
/-- the last bid below n that is in m and of the bidder e; -1 without one -/
def zLw (a : zS) (m : Nat) : Nat → Nat → Int
  | 0, _ => -1
  | n + 1, e => if m.testBit n = true ∧ zOw a n = e then (n : Int) else zLw a m n e
def zLp (a : zS) (ab : Nat) : Nat → Nat → Int
  | 0, _ => 0
  | n + 1, e => if (zFw a ab).2.testBit n = true ∧ zOw a n = e then (zRes a (zBu a n) : Int) + zGw a ab e - ((zFw a ab).1 - zGn a n) else zLp a ab n e
/-- a settled sale -/
def zSet (a : zS) (bs : Nat → Int × Nat) (wb pd gw : Nat → Nat → Int) (z ab : Nat) : Prop := bs z = zFw a ab ∧ ∀ d, d < 5 → wb z d = zLw a (zFw a ab).2 (zNb a) d ∧ pd z d = zLp a ab (zNb a) d ∧ gw z d = zGw a ab d
def zSame (z : Nat) (bs : Nat → Int × Nat) (wb pd gw : Nat → Nat → Int) (bs' : Nat → Int × Nat) (wb' pd' gw' : Nat → Nat → Int) : Prop := ∀ y, y < 2 → y ≠ z → bs' y = bs y ∧ wb' y = wb y ∧ pd' y = pd y ∧ gw' y = gw y
def zPst (g : zG) (q : Nat → Nat) (a : zS) (bs : Nat → Int × Nat) (wb pd gw : Nat → Nat → Int) (z ab : Nat) : va_W → Prop := fun w' => ∃ (bs' : Nat → Int × Nat) (wb' pd' gw' : Nat → Nat → Int), w' = wB g q a (zG0 a) bs' wb' pd' gw' ∧ zSet a bs' wb' pd' gw' z ab ∧ zSame z bs wb pd gw bs' wb' pd' gw'
theorem zst_b {bs bs1 : Nat → Int × Nat} {z : Nat} {F : Int × Nat} (hz : z < 2) (h : bs1 z = F ∧ ∀ y, y < 2 → y ≠ z → bs1 y = bs y) (v : Int × Nat) : (va_up bs1 2 v) z = F ∧ ∀ y, y < 2 → y ≠ z → va_up bs1 2 v y = bs y := by
  refine ⟨by rw [va_up_ne _ _ (by omega)]; exact h.1, fun y h1 h2 => by rw [va_up_ne _ _ (by omega)]; exact h.2 y h1 h2⟩
theorem zst_b0 {bs : Nat → Int × Nat} {z : Nat} (F : Int × Nat) : (va_up bs z F) z = F ∧ ∀ y, y < 2 → y ≠ z → va_up bs z F y = bs y := ⟨va_up_self _ _ _, fun y _ h2 => va_up_ne _ _ h2⟩
theorem zst_g0 {gw : Nat → Nat → Int} {z : Nat} (f : Nat → Int) (x : Int) : (∀ e, e < 5 → (va_up gw z (zFil (gw z) 5 x)) z e = if e < 0 then f e else x) ∧ ∀ y, y < 2 → y ≠ z → va_up gw z (zFil (gw z) 5 x) y = gw y := by
  refine ⟨fun e he => ?_, fun y _ h2 => va_up_ne _ _ h2⟩
  rw [va_up_self]
  simp [zFil, he]
theorem zst_g {gw gw1 : Nat → Nat → Int} {z d : Nat} {f : Nat → Int} {v x : Int} (h : (∀ e, e < 5 → gw1 z e = if e < d then f e else x) ∧ ∀ y, y < 2 → y ≠ z → gw1 y = gw y) (hv : v = f d) : (∀ e, e < 5 → (zup2 gw1 z d v) z e = if e < d + 1 then f e else x) ∧ ∀ y, y < 2 → y ≠ z → zup2 gw1 z d v y = gw y := by
  refine ⟨fun e he => ?_, fun y h1 h2 => by unfold zup2; rw [va_up_ne _ _ h2]; exact h.2 y h1 h2⟩
  unfold zup2
  rw [va_up_self]
  by_cases hed : e = d
  · subst hed
    rw [va_up_self, hv, if_pos (by omega)]
  · rw [va_up_ne _ _ hed, h.1 e he]
    by_cases h3 : e < d
    · rw [if_pos h3, if_pos (by omega)]
    · rw [if_neg h3, if_neg (by omega)]
theorem zst_w0 {wb : Nat → Nat → Int} {z : Nat} (f : Nat → Nat → Int) (x : Int) (h0 : ∀ e, f 0 e = x) : (∀ e, e < 5 → (va_up wb z (zFil (wb z) 5 x)) z e = f 0 e) ∧ ∀ y, y < 2 → y ≠ z → va_up wb z (zFil (wb z) 5 x) y = wb y := by
  refine ⟨fun e he => ?_, fun y _ h2 => va_up_ne _ _ h2⟩
  rw [va_up_self, h0]
  simp [zFil, he]
theorem zst_w {wb wb1 : Nat → Nat → Int} {z n o : Nat} {f : Nat → Nat → Int} {v : Int} (h : (∀ e, e < 5 → wb1 z e = f n e) ∧ ∀ y, y < 2 → y ≠ z → wb1 y = wb y) (h1 : f (n + 1) o = v) (h2 : ∀ e, e ≠ o → f (n + 1) e = f n e) : (∀ e, e < 5 → (zup2 wb1 z o v) z e = f (n + 1) e) ∧ ∀ y, y < 2 → y ≠ z → zup2 wb1 z o v y = wb y := by
  refine ⟨fun e he => ?_, fun y h3 h4 => by unfold zup2; rw [va_up_ne _ _ h4]; exact h.2 y h3 h4⟩
  unfold zup2
  rw [va_up_self]
  by_cases hed : e = o
  · subst hed
    rw [va_up_self, h1]
  · rw [va_up_ne _ _ hed, h.1 e he, h2 e hed]
theorem zst_wn {wb wb1 : Nat → Nat → Int} {z n : Nat} {f : Nat → Nat → Int} (h : (∀ e, e < 5 → wb1 z e = f n e) ∧ ∀ y, y < 2 → y ≠ z → wb1 y = wb y) (h2 : ∀ e, f (n + 1) e = f n e) : (∀ e, e < 5 → wb1 z e = f (n + 1) e) ∧ ∀ y, y < 2 → y ≠ z → wb1 y = wb y := ⟨fun e he => by rw [h.1 e he, h2 e], h.2⟩
def zSi (f : Nat → Int) : Nat → Int
  | 0 => 0
  | n + 1 => zSi f n + f n
/-- a price is told: the gains follow -/
theorem zG0_setPr (a : zS) {b : Nat} (hb : b < zNb a) (x : Nat) : va_up (zG0 a) b ((x : Int) - (zRes a (zBu a b) : Int)) = zG0 (zSetPr a b x) := by
  funext j
  by_cases h : j = b
  · subst h
    rw [va_up_self]
    have h1 : zNb (zSetPr a j x) = zNb a := rfl
    unfold zG0
    rw [h1, if_pos hb]
    show _ = ((va_up (zPr a) j x j : Nat) : Int) - (zRes (zSetPr a j x) (zBu (zSetPr a j x) j) : Int)
    rw [va_up_self]
    rfl
  · rw [va_up_ne _ _ h]
    unfold zG0 zGn
    show (if j < zNb a then _ else _) = if j < zNb a then ((va_up (zPr a) b x j : Nat) : Int) - _ else _
    rw [va_up_ne _ _ h]
    rfl
set_option maxRecDepth 100000 in
set_option maxHeartbeats 4000000 in
theorem c_X2_findWinners (l : Launch) (g : zG) (q : Nat → Nat) (a : zS) (bs : Nat → Int × Nat) (wb pd gw : Nat → Nat → Int) (z : Nat) (ha : zOk a) (hz : z < 3) (ab : Nat) : zM g l yX2_findWinners wsX2_findWinners { frames := 28, cells := 0, slots := 0, locals := 753 } [.ref (q 0), .ref (q (9 + z)), .int (nI ab)] (wB g q a (zG0 a) bs wb pd gw) (zPv (wB g q a (zG0 a) (va_up bs z (zFw a ab)) wb pd gw)) 0 0 := by
  refine zM.of (cc := cX2_findWinners) (nL := 3) (ret := none) (lv := [(0, .ref (q 0)), (1, .ref (q (9 + z))), (2, .int (nI ab))]) (by decide) rfl (Nat.le_of_ble_eq_true rfl) rfl ?_
  intro E C0 hi
  have C : zC g E cX2_findWinners RX2 wsX2_findWinners 3 none := C0
  obtain ⟨hnf, hnd, hnb, hou, hrs, hbd⟩ := id ha
  refine z_aload_n C dX2_findWinners_0 1 rfl ?_
  refine z_callVN C (c_X0_clear l g q a bs wb pd gw z (by omega)) ⟨va_cnB 0 C.ts ggX2_findWinners_X0_clear rfl rfl rfl (C.K.2.1 _ (List.mem_of_getElem? (i := 11) rfl)) (C.w 2 rfl) (by decide +kernel) ⟨Nat.le_of_ble_eq_true rfl, Nat.le_of_ble_eq_true rfl⟩, (C.w 1 rfl), (C.w 3 rfl)⟩ (wB_bs (z := z) (by omega)) rfl rfl rfl (Nat.le_of_ble_eq_true rfl) dX2_findWinners_1 ⟨Nat.zero_le _, Nat.zero_le _⟩ (z_v ?_)
  refine z_aload_n C dX2_findWinners_4 0 rfl ?_
  refine z_aload_n C dX2_findWinners_5 1 rfl ?_
  refine z_iconst C (nI 0) dX2_findWinners_6 (by decide) ?_
  refine z_iconst C (nI 0) dX2_findWinners_7 (by decide) ?_
  refine z_iload_n C dX2_findWinners_8 2 rfl ?_
  refine z_iconst C (nI 0) dX2_findWinners_9 (by decide) ?_
  refine z_iconst C (nI 0) dX2_findWinners_10 (by decide) ?_
  refine z_callV C (zSkM_all l g q a wb pd gw ha (zNb a) (va_up bs z (0, 0)) z hz 0 0 ab 0 0 (by omega) (by rw [va_up_self]; exact ⟨by decide, by decide, by decide⟩) ⟨by decide, by decide⟩ (by decide)) (cwV 6 C.ts gX2_findWinners_X2_seek rfl rfl rfl (by decide +kernel) ⟨by dsimp only; omega, by dsimp only; omega⟩) wB_o rfl rfl rfl (Nat.le_of_ble_eq_true rfl) dX2_findWinners_11 ⟨Nat.zero_le _, Nat.zero_le _⟩ (z_v ?_)
  exact z_vretP C dX2_findWinners_14 (by rw [bx_uu, va_up_self, zCons_00]; rfl)
theorem inX2_award_X0 : ∀ w ∈ wsX00, w ∈ wsX2_award := fun w h => List.mem_cons_of_mem _ (List.mem_append_right _ (h))
theorem inX2_award_X1 : ∀ w ∈ wsX10, w ∈ wsX2_award := fun w h => List.mem_cons_of_mem _ (List.mem_append_left _ (List.mem_append_right _ (h)))
theorem inX2_award_X2 : ∀ w ∈ wsX20, w ∈ wsX2_award := fun w h => List.mem_cons_of_mem _ (List.mem_append_left _ (List.mem_append_left _ (List.mem_append_right _ (h))))
set_option maxRecDepth 100000 in
set_option maxHeartbeats 4000000 in
theorem c_X2_award (l : Launch) (g : zG) (q : Nat → Nat) (a : zS) (bs : Nat → Int × Nat) (wb pd gw : Nat → Nat → Int) (z : Nat) (ha : zOk a) (hz : z < 2) (b : Nat) (hb : b < zNb a) : zM g l yX2_award wsX2_award { frames := 2, cells := 0, slots := 0, locals := 44 } [.ref (q 0), .ref (q (12 + z)), .int (nI b)] (wB g q a (zG0 a) bs wb pd gw) (zPv (wB g q a (zG0 a) bs (zup2 wb z (zOw a b) (b : Int)) (zup2 pd z (zOw a b) ((zRes a (zBu a b) : Int) + gw z (zOw a b) - ((bs z).1 - zG0 a b))) gw)) 0 0 := by
  refine zM.of (cc := cX2_award) (nL := 5) (ret := none) (lv := [(0, .ref (q 0)), (1, .ref (q (12 + z))), (2, .int (nI b))]) (by decide) rfl (Nat.le_of_ble_eq_true rfl) rfl ?_
  intro E C0 hi
  have C : zC g E cX2_award RX2 wsX2_award 5 none := C0
  obtain ⟨hnf, hnd, hnb, hou, hrs, hbd⟩ := id ha
  refine z_aload_n C dX2_award_0 0 rfl ?_
  refine z_get C inX2_award_X2 0 wB_o rfl 4 (by decide) (C.w 1 rfl) rfl dX2_award_1 ?_
  refine z_iload_n C dX2_award_4 2 rfl ?_
  refine z_ialdN C 3 wB_ow (by omega) (by decide) dX2_award_5 (v := nI (zOw a b)) rfl ?_
  have f_5b := (ha.ow (b := b) (by omega))
  refine z_istore_n C dX2_award_6 (by decide) [(3, .int (nI (zOw a b))), (0, .ref (q 0)), (1, .ref (q (12 + z))), (2, .int (nI b))] rfl ?_
  refine z_aload_n C dX2_award_7 2 rfl ?_
  refine z_getN C inX2_award_X1 (12 + z) (wB_sl (z := z) hz) rfl 0 (by decide) 2 rfl rfl dX2_award_8 ?_
  refine z_getN C inX2_award_X0 (9 + z) (wB_bs (z := z) (by omega)) rfl 0 (by decide) 0 rfl rfl dX2_award_11 ?_
  refine z_aload_n C dX2_award_14 1 rfl ?_
  refine z_get C inX2_award_X2 0 wB_o rfl 7 (by decide) (C.w 2 rfl) rfl dX2_award_15 ?_
  refine z_iload_n C dX2_award_18 3 rfl ?_
  refine z_ialdN C 6 wB_G (by omega) (by decide) dX2_award_19 (v := iZ ((zG0 a) b)) rfl ?_
  have f_19b := (zG0_bnd ha b)
  refine z_isub C dX2_award_20 (v := iZ (((bs z).1) - ((zG0 a) b))) (iZ_sub ((bs z).1) ((zG0 a) b)) ?_
  refine z_istore C dX2_award_21 (by decide) [(4, .int (iZ (((bs z).1) - ((zG0 a) b)))), (3, .int (nI (zOw a b))), (0, .ref (q 0)), (1, .ref (q (12 + z))), (2, .int (nI b))] rfl ?_
  refine z_aload_n C dX2_award_23 3 rfl ?_
  refine z_getN C inX2_award_X1 (12 + z) (wB_sl (z := z) hz) rfl 1 (by decide) 3 rfl rfl dX2_award_24 ?_
  refine z_iload_n C dX2_award_27 1 rfl ?_
  refine z_iload_n C dX2_award_28 4 rfl ?_
  refine z_iastN C (14 + z) (wB_wb (z := z) hz) (by omega) (by decide) dX2_award_29 (wB_set_wb (z := z) hz (zOw a b) ((b : Nat) : Int)) ?_
  refine z_aload_n C dX2_award_30 3 rfl ?_
  refine z_getN C inX2_award_X1 (12 + z) (wB_sl (z := z) hz) rfl 2 (by decide) 4 rfl rfl dX2_award_31 ?_
  refine z_iload_n C dX2_award_34 1 rfl ?_
  refine z_aload_n C dX2_award_35 2 rfl ?_
  refine z_aload_n C dX2_award_36 2 rfl ?_
  refine z_get C inX2_award_X2 0 wB_o rfl 5 (by decide) (C.w 3 rfl) rfl dX2_award_37 ?_
  refine z_iload_n C dX2_award_40 4 rfl ?_
  refine z_ialdN C 4 wB_bu (by omega) (by decide) dX2_award_41 (v := nI (zBu a b)) rfl ?_
  have f_41b := (ha.bu8 (b := b) (by omega))
  refine z_callV C (c_X2_reservesOf l g q a bs (zup2 wb z (zOw a b) ((b : Nat) : Int)) pd gw (zG0 a) ha (zBu a b)) (cwV 1 C.ts gX2_award_X2_reservesOf rfl rfl rfl (by decide +kernel) ⟨Nat.le_of_ble_eq_true rfl, Nat.le_of_ble_eq_true rfl⟩) wB_o rfl rfl rfl (Nat.le_of_ble_eq_true rfl) dX2_award_42 ⟨Nat.zero_le _, Nat.zero_le _⟩ (z_i ?_)
  refine z_aload_n C dX2_award_45 3 rfl ?_
  refine z_getN C inX2_award_X1 (12 + z) (wB_sl (z := z) hz) rfl 3 (by decide) 5 rfl rfl dX2_award_46 ?_
  refine z_iload_n C dX2_award_49 1 rfl ?_
  refine z_ialdN C (18 + z) (wB_gw (z := z) hz) (by omega) (by decide) dX2_award_50 (v := iZ (gw z (zOw a b))) rfl ?_
  refine z_iadd C dX2_award_51 (v := iZ (((zRes a (zBu a b) : Nat) : Int) + (gw z (zOw a b)))) (iZ_add ((zRes a (zBu a b) : Nat) : Int) (gw z (zOw a b))) ?_
  refine z_iload C dX2_award_52 0 rfl ?_
  refine z_isub C dX2_award_54 (v := iZ ((((zRes a (zBu a b) : Nat) : Int) + (gw z (zOw a b))) - (((bs z).1) - ((zG0 a) b)))) (iZ_sub (((zRes a (zBu a b) : Nat) : Int) + (gw z (zOw a b))) (((bs z).1) - ((zG0 a) b))) ?_
  refine z_iastN C (16 + z) (wB_pd (z := z) hz) (by omega) (by decide) dX2_award_55 (wB_set_pd (z := z) hz (zOw a b) ((((zRes a (zBu a b) : Nat) : Int) + (gw z (zOw a b))) - (((bs z).1) - ((zG0 a) b)))) ?_
  exact z_vretP C dX2_award_56 rfl
theorem inX1_clear_X1 : ∀ w ∈ wsX10, w ∈ wsX1_clear := fun w h => List.mem_cons_of_mem _ (List.mem_append_left _ (List.mem_append_right _ (h)))
set_option maxRecDepth 100000 in
set_option maxHeartbeats 4000000 in
theorem c_X1_clear (l : Launch) (g : zG) (q : Nat → Nat) (a : zS) (bs : Nat → Int × Nat) (wb pd gw : Nat → Nat → Int) (z : Nat) (hz : z < 2) : zM g l yX1_clear wsX1_clear { frames := 1, cells := 0, slots := 0, locals := 23 } [.ref (q (12 + z))] (wB g q a (zG0 a) bs wb pd gw) (zPv (wB g q a (zG0 a) (va_up bs z (0, 0)) (va_up wb z (zFil (wb z) 5 (-1))) (va_up pd z (zFil (pd z) 5 0)) (va_up gw z (zFil (gw z) 5 0)))) 0 0 := by
  refine zM.of (cc := cX1_clear) (nL := 1) (ret := none) (lv := [(0, .ref (q (12 + z)))]) (by decide) rfl (Nat.le_of_ble_eq_true rfl) rfl ?_
  intro E C0 hi
  have C : zC g E cX1_clear RX1 wsX1_clear 1 none := C0
  refine z_aload_n C dX1_clear_0 0 rfl ?_
  refine z_get C inX1_clear_X1 (12 + z) (wB_sl (z := z) hz) rfl 0 (by decide) (C.w 1 rfl) rfl dX1_clear_1 ?_
  refine z_callVN C (c_X0_clear l g q a bs wb pd gw z (by omega)) ⟨va_cnB 0 C.ts ggX1_clear_X0_clear rfl rfl rfl (C.K.2.1 _ (List.mem_of_getElem? (i := 10) rfl)) (C.w 6 rfl) (by decide +kernel) ⟨Nat.le_of_ble_eq_true rfl, Nat.le_of_ble_eq_true rfl⟩, (C.w 5 rfl), (C.w 7 rfl)⟩ (wB_bs (z := z) (by omega)) rfl rfl rfl (Nat.le_of_ble_eq_true rfl) dX1_clear_4 ⟨Nat.zero_le _, Nat.zero_le _⟩ (z_v ?_)
  refine z_aload_n C dX1_clear_7 0 rfl ?_
  refine z_get C inX1_clear_X1 (12 + z) (wB_sl (z := z) hz) rfl 1 (by decide) (C.w 2 rfl) rfl dX1_clear_8 ?_
  refine z_iconst C (iZ (-1)) dX1_clear_11 (by decide) ?_
  refine z_callS C (c_J7_fill_53178 l g (wB g q a (zG0 a) (va_up bs z (0, 0)) wb pd gw) (14 + z) (q (14 + z)) 5 (wb z) ((-1)) (wB_wb hz) (by decide)) (va_cwS 2 C.ts gX1_clear_J7_fill_53178 rfl rfl rfl (by decide +kernel) ⟨Nat.le_of_ble_eq_true rfl, Nat.le_of_ble_eq_true rfl⟩) rfl rfl (Nat.le_of_ble_eq_true rfl) dX1_clear_12 ⟨Nat.zero_le _, Nat.zero_le _⟩ (z_v ?_)
  refine zW.eqw (wB_fil_wb hz _) ?_
  refine z_aload_n C dX1_clear_15 0 rfl ?_
  refine z_get C inX1_clear_X1 (12 + z) (wB_sl (z := z) hz) rfl 2 (by decide) (C.w 3 rfl) rfl dX1_clear_16 ?_
  refine z_iconst C (nI 0) dX1_clear_19 (by decide) ?_
  refine z_callS C (c_J7_fill_53178 l g (wB g q a (zG0 a) (va_up bs z (0, 0)) (va_up wb z (zFil (wb z) 5 ((-1)))) pd gw) (16 + z) (q (16 + z)) 5 (pd z) (0) (wB_pd hz) (by decide)) (va_cwS 2 C.ts gX1_clear_J7_fill_53178 rfl rfl rfl (by decide +kernel) ⟨Nat.le_of_ble_eq_true rfl, Nat.le_of_ble_eq_true rfl⟩) rfl rfl (Nat.le_of_ble_eq_true rfl) dX1_clear_20 ⟨Nat.zero_le _, Nat.zero_le _⟩ (z_v ?_)
  refine zW.eqw (wB_fil_pd hz _) ?_
  refine z_aload_n C dX1_clear_23 0 rfl ?_
  refine z_get C inX1_clear_X1 (12 + z) (wB_sl (z := z) hz) rfl 3 (by decide) (C.w 4 rfl) rfl dX1_clear_24 ?_
  refine z_iconst C (nI 0) dX1_clear_27 (by decide) ?_
  refine z_callS C (c_J7_fill_53178 l g (wB g q a (zG0 a) (va_up bs z (0, 0)) (va_up wb z (zFil (wb z) 5 ((-1)))) (va_up pd z (zFil (pd z) 5 (0))) gw) (18 + z) (q (18 + z)) 5 (gw z) (0) (wB_gw hz) (by decide)) (va_cwS 2 C.ts gX1_clear_J7_fill_53178 rfl rfl rfl (by decide +kernel) ⟨Nat.le_of_ble_eq_true rfl, Nat.le_of_ble_eq_true rfl⟩) rfl rfl (Nat.le_of_ble_eq_true rfl) dX1_clear_28 ⟨Nat.zero_le _, Nat.zero_le _⟩ (z_v ?_)
  refine zW.eqw (wB_fil_gw hz _) ?_
  exact z_vretP C dX1_clear_31 rfl
theorem inX2_settle_X0 : ∀ w ∈ wsX00, w ∈ wsX2_settle := fun w h => List.mem_cons_of_mem _ (List.mem_append_right _ (h))
theorem inX2_settle_X1 : ∀ w ∈ wsX10, w ∈ wsX2_settle := fun w h => List.mem_cons_of_mem _ (List.mem_append_left _ (List.mem_append_left _ (List.mem_append_right _ (h))))
theorem inX2_settle_X2 : ∀ w ∈ wsX20, w ∈ wsX2_settle := fun w h => List.mem_cons_of_mem _ (List.mem_append_left _ (List.mem_append_right _ (h)))
set_option maxRecDepth 100000 in
set_option maxHeartbeats 4000000 in
theorem c_X2_settle (l : Launch) (g : zG) (q : Nat → Nat) (a : zS) (bs : Nat → Int × Nat) (wb pd gw : Nat → Nat → Int) (z : Nat) (ha : zOk a) (hz : z < 2) (ab : Nat) : zM g l yX2_settle wsX2_settle { frames := 29, cells := 0, slots := 0, locals := 775 } [.ref (q 0), .ref (q (12 + z)), .int (nI ab)] (wB g q a (zG0 a) bs wb pd gw) (zPe (zPst g q a bs wb pd gw z ab)) 0 0 := by
  refine zM.of (cc := cX2_settle) (nL := 4) (ret := none) (lv := [(0, .ref (q 0)), (1, .ref (q (12 + z))), (2, .int (nI ab))]) (by decide) rfl (Nat.le_of_ble_eq_true rfl) rfl ?_
  intro E C0 hi
  have C : zC g E cX2_settle RX2 wsX2_settle 4 none := C0
  obtain ⟨hnf, hnd, hnb, hou, hrs, hbd⟩ := id ha
  refine z_aload_n C dX2_settle_0 1 rfl ?_
  refine z_callVN C (c_X1_clear l g q a bs wb pd gw z hz) ⟨va_cnB 0 C.ts ggX2_settle_X1_clear rfl rfl rfl (C.K.2.1 _ (List.mem_of_getElem? (i := 9) rfl)) (C.w 5 rfl) (by decide +kernel) ⟨Nat.le_of_ble_eq_true rfl, Nat.le_of_ble_eq_true rfl⟩, (C.w 4 rfl), (C.w 6 rfl)⟩ (wB_sl (z := z) hz) rfl rfl rfl (Nat.le_of_ble_eq_true rfl) dX2_settle_1 ⟨Nat.zero_le _, Nat.zero_le _⟩ (z_v ?_)
  refine z_aload_n C dX2_settle_4 0 rfl ?_
  refine z_aload_n C dX2_settle_5 1 rfl ?_
  refine z_getN C inX2_settle_X1 (12 + z) (wB_sl (z := z) hz) rfl 0 (by decide) 2 rfl rfl dX2_settle_6 ?_
  refine z_iload_n C dX2_settle_9 2 rfl ?_
  refine z_callV C (c_X2_findWinners l g q a (va_up bs z (0, 0)) (va_up wb z (zFil (wb z) 5 (-1))) (va_up pd z (zFil (pd z) 5 0)) (va_up gw z (zFil (gw z) 5 0)) z ha (by omega) ab) (cwV 2 C.ts gX2_settle_X2_findWinners rfl rfl rfl (by decide +kernel) ⟨Nat.le_of_ble_eq_true rfl, Nat.le_of_ble_eq_true rfl⟩) wB_o rfl rfl rfl (Nat.le_of_ble_eq_true rfl) dX2_settle_10 ⟨Nat.zero_le _, Nat.zero_le _⟩ (z_v ?_)
  refine z_iconst C (nI 0) dX2_settle_13 (by decide) ?_
  refine z_istore_n C dX2_settle_14 (by decide) [(3, .int (nI 0)), (0, .ref (q 0)), (1, .ref (q (12 + z))), (2, .int (nI ab))] rfl ?_
  rw [bx_uu]
  refine zW.pick (lv' := [(0, .ref (q 0)), (1, .ref (q (12 + z))), (2, .int (nI ab)), (3, .int (nI 0))]) [1, 2, 3, 0] rfl ?_
  have hlp15 : ∀ (k d : Nat) (bs1 : Nat → Int × Nat) (gw1 : Nat → Nat → Int), d + k = zNd a → (bs1 z = zFw a ab ∧ ∀ y, y < 2 → y ≠ z → bs1 y = bs y) → ((∀ e, e < 5 → gw1 z e = if e < d then (zFw a (ab ||| 2 ^ e)).1 else 0) ∧ ∀ y, y < 2 → y ≠ z → gw1 y = gw y) → zW g l ({ frames := 29, cells := 0, slots := 0, locals := 775 }) E (zMQ g E (zPe (zPst g q a bs wb pd gw z ab)) 0 0) 4 0 0 (wB g q a (zG0 a) bs1 (va_up wb z (zFil (wb z) 5 (-1))) (va_up pd z (zFil (pd z) 5 0)) gw1) [(0, .ref (q 0)), (1, .ref (q (12 + z))), (2, .int (nI ab)), (3, .int (nI d))] [] 15 := by
    intro k
    induction k with
    | zero =>
      intro d bs1 gw1 hdk hb1 hg1
      refine z_iload_n C dX2_settle_15 3 rfl ?_
      refine z_aload_n C dX2_settle_16 0 rfl ?_
      refine z_get C inX2_settle_X2 0 wB_o rfl 3 (by decide) (C.w 1 rfl) rfl dX2_settle_17 ?_
      refine z_icmp_ge C 55 dX2_settle_20 (by decide) (zle_NN (by omega) (by omega)) (fun c_20 => ?_) (fun h9 => absurd (by omega) h9)
      have hgw : ∀ e, e < 5 → gw1 z e = zGw a ab e := fun e he => by rw [hg1.1 e he, show d = zNd a by omega]; rfl
      refine z_iconst C (nI 0) dX2_settle_55 (by decide) ?_
      refine z_istore_n C dX2_settle_56 (by decide) [(3, .int (nI 0)), (0, .ref (q 0)), (1, .ref (q (12 + z))), (2, .int (nI ab))] rfl ?_
      refine zW.pick (lv' := [(0, .ref (q 0)), (1, .ref (q (12 + z))), (2, .int (nI ab)), (3, .int (nI 0))]) [1, 2, 3, 0] rfl ?_
      have hlp57 : ∀ (kb b : Nat) (wb1 : Nat → Nat → Int) (pd1 : Nat → Nat → Int), b + kb = zNb a → ((∀ e, e < 5 → wb1 z e = zLw a (zFw a ab).2 b e) ∧ ∀ y, y < 2 → y ≠ z → wb1 y = wb y) → ((∀ e, e < 5 → pd1 z e = zLp a ab b e) ∧ ∀ y, y < 2 → y ≠ z → pd1 y = pd y) → zW g l ({ frames := 29, cells := 0, slots := 0, locals := 775 }) E (zMQ g E (zPe (zPst g q a bs wb pd gw z ab)) 0 0) 4 0 0 (wB g q a (zG0 a) bs1 wb1 pd1 gw1) [(0, .ref (q 0)), (1, .ref (q (12 + z))), (2, .int (nI ab)), (3, .int (nI b))] [] 57 := by
        intro kb
        induction kb with
        | zero =>
          intro b wb1 pd1 hbk hw1 hp1
          refine z_iload_n C dX2_settle_57 3 rfl ?_
          refine z_aload_n C dX2_settle_58 0 rfl ?_
          refine z_get C inX2_settle_X2 0 wB_o rfl 10 (by decide) (C.w 3 rfl) rfl dX2_settle_59 ?_
          refine z_icmp_ge C 88 dX2_settle_62 (by decide) (zle_NN (by omega) (by omega)) (fun c_62 => ?_) (fun h9 => absurd (by omega) h9)
          exact z_eret C dX2_settle_88 ⟨_, _, _, _, rfl, ⟨hb1.1, fun e he => ⟨by rw [hw1.1 e he, show b = zNb a by omega], by rw [hp1.1 e he, show b = zNb a by omega], hgw e he⟩⟩, fun y h1 h2 => ⟨hb1.2 y h1 h2, hw1.2 y h1 h2, hp1.2 y h1 h2, hg1.2 y h1 h2⟩⟩
        | succ kb ih57 =>
          intro b wb1 pd1 hbk hw1 hp1
          refine z_iload_n C dX2_settle_57 3 rfl ?_
          refine z_aload_n C dX2_settle_58 0 rfl ?_
          refine z_get C inX2_settle_X2 0 wB_o rfl 10 (by decide) (C.w 3 rfl) rfl dX2_settle_59 ?_
          refine z_icmp_ge C 88 dX2_settle_62 (by decide) (zle_NN (by omega) (by omega)) (fun h9 => absurd h9 (by omega)) (fun c_62 => ?_)
          refine z_aload_n C dX2_settle_65 1 rfl ?_
          refine z_getN C inX2_settle_X1 (12 + z) (wB_sl (z := z) hz) rfl 0 (by decide) 2 rfl rfl dX2_settle_66 ?_
          refine z_iload_n C dX2_settle_69 3 rfl ?_
          refine z_callVN C (c_X0_has l g q a bs1 wb1 pd1 gw1 z (by omega) b (by omega)) ⟨va_cnB 1 C.ts ggX2_settle_X0_has rfl rfl rfl (C.K.2.1 _ (List.mem_of_getElem? (i := 13) rfl)) (C.w 13 rfl) (by decide +kernel) ⟨Nat.le_of_ble_eq_true rfl, Nat.le_of_ble_eq_true rfl⟩, (C.w 58 rfl), (C.w 59 rfl)⟩ (wB_bs (z := z) (by omega)) rfl rfl rfl (Nat.le_of_ble_eq_true rfl) dX2_settle_70 ⟨Nat.zero_le _, Nat.zero_le _⟩ (z_i ?_)
          refine z_if_eq C 82 dX2_settle_73 (by decide) (zeq_B0 _) (fun c_73 => ?_) (fun c_73 => ?_)
          · skip
            have hw9 := zst_wn (f := zLw a (zFw a ab).2) (n := b) hw1 (fun e => if_neg (by rw [← hb1.1]; simp_all))
            have hp9 := zst_wn (f := zLp a ab) (n := b) hp1 (fun e => if_neg (by rw [← hb1.1]; simp_all))
            refine z_iinc C dX2_settle_82 3 (nI (b + 1)) rfl (nI_add b 1) (by decide) [(3, .int (nI (b + 1))), (0, .ref (q 0)), (1, .ref (q (12 + z))), (2, .int (nI ab))] rfl ?_
            refine z_goto C 57 dX2_settle_85 (by decide) ?_
            refine zW.pick (lv' := [(0, .ref (q 0)), (1, .ref (q (12 + z))), (2, .int (nI ab)), (3, .int (nI (b + 1)))]) [1, 2, 3, 0] rfl ?_
            exact ih57 (b + 1) wb1 pd1 (by omega) hw9 hp9
          · skip
            have how := ha.ow (b := b) (by omega)
            refine z_aload_n C dX2_settle_76 0 rfl ?_
            refine z_aload_n C dX2_settle_77 1 rfl ?_
            refine z_iload_n C dX2_settle_78 3 rfl ?_
            refine z_callV C (c_X2_award l g q a bs1 wb1 pd1 gw1 z ha hz b (by omega)) (cwV 2 C.ts gX2_settle_X2_award rfl rfl rfl (by decide +kernel) ⟨Nat.le_of_ble_eq_true rfl, Nat.le_of_ble_eq_true rfl⟩) wB_o rfl rfl rfl (Nat.le_of_ble_eq_true rfl) dX2_settle_79 ⟨Nat.zero_le _, Nat.zero_le _⟩ (z_v ?_)
            have htb : (zFw a ab).2.testBit b = true := by rw [← hb1.1]; simpa using c_73
            have hw9 := zst_w (f := zLw a (zFw a ab).2) (n := b) (o := zOw a b) hw1 (if_pos ⟨htb, rfl⟩) (fun e he => if_neg (fun h9 => he h9.2.symm))
            have hp9 := zst_w (f := zLp a ab) (n := b) (o := zOw a b) (v := (zRes a (zBu a b) : Int) + gw1 z (zOw a b) - ((bs1 z).1 - zG0 a b)) hp1 (by rw [hb1.1, hgw _ (by omega)]; unfold zG0; rw [if_pos (show b < zNb a by omega)]; exact if_pos ⟨htb, rfl⟩) (fun e he => if_neg (fun h9 => he h9.2.symm))
            refine z_iinc C dX2_settle_82 3 (nI (b + 1)) rfl (nI_add b 1) (by decide) [(3, .int (nI (b + 1))), (0, .ref (q 0)), (1, .ref (q (12 + z))), (2, .int (nI ab))] rfl ?_
            refine z_goto C 57 dX2_settle_85 (by decide) ?_
            refine zW.pick (lv' := [(0, .ref (q 0)), (1, .ref (q (12 + z))), (2, .int (nI ab)), (3, .int (nI (b + 1)))]) [1, 2, 3, 0] rfl ?_
            exact ih57 (b + 1) (zup2 wb1 z (zOw a b) ((b : Nat) : Int)) (zup2 pd1 z (zOw a b) ((zRes a (zBu a b) : Int) + gw1 z (zOw a b) - ((bs1 z).1 - zG0 a b))) (by omega) hw9 hp9
      exact hlp57 (zNb a) 0 (va_up wb z (zFil (wb z) 5 (-1))) (va_up pd z (zFil (pd z) 5 0)) (by omega) (zst_w0 (zLw a (zFw a ab).2) (-1) (fun _ => rfl)) (zst_w0 (zLp a ab) 0 (fun _ => rfl))
    | succ k ih15 =>
      intro d bs1 gw1 hdk hb1 hg1
      refine z_iload_n C dX2_settle_15 3 rfl ?_
      refine z_aload_n C dX2_settle_16 0 rfl ?_
      refine z_get C inX2_settle_X2 0 wB_o rfl 3 (by decide) (C.w 1 rfl) rfl dX2_settle_17 ?_
      refine z_icmp_ge C 55 dX2_settle_20 (by decide) (zle_NN (by omega) (by omega)) (fun h9 => absurd h9 (by omega)) (fun c_20 => ?_)
      refine z_aload_n C dX2_settle_23 0 rfl ?_
      refine z_aload_n C dX2_settle_24 0 rfl ?_
      refine z_get C inX2_settle_X2 0 wB_o rfl 13 (by decide) (C.w 2 rfl) rfl dX2_settle_25 ?_
      refine z_iload_n C dX2_settle_28 2 rfl ?_
      refine z_iconst C (nI 1) dX2_settle_29 (by decide) ?_
      refine z_iload_n C dX2_settle_30 3 rfl ?_
      refine z_ishl C dX2_settle_31 (v := nI (2 ^ d)) (zshl_1N (by omega)) ?_
      refine z_ior C dX2_settle_32 (v := nI (ab ||| (2 ^ d))) (zor_NN ab (2 ^ d)) ?_
      refine z_callV C (c_X2_findWinners l g q a bs1 (va_up wb z (zFil (wb z) 5 (-1))) (va_up pd z (zFil (pd z) 5 0)) gw1 2 ha (by decide) (ab ||| (2 ^ d))) (cwV 2 C.ts gX2_settle_X2_findWinners rfl rfl rfl (by decide +kernel) ⟨Nat.le_of_ble_eq_true rfl, Nat.le_of_ble_eq_true rfl⟩) wB_o rfl rfl rfl (Nat.le_of_ble_eq_true rfl) dX2_settle_33 ⟨Nat.zero_le _, Nat.zero_le _⟩ (z_v ?_)
      refine z_aload_n C dX2_settle_36 1 rfl ?_
      refine z_getN C inX2_settle_X1 (12 + z) (wB_sl (z := z) hz) rfl 3 (by decide) 5 rfl rfl dX2_settle_37 ?_
      refine z_iload_n C dX2_settle_40 3 rfl ?_
      refine z_aload_n C dX2_settle_41 0 rfl ?_
      refine z_get C inX2_settle_X2 0 wB_o rfl 13 (by decide) (C.w 2 rfl) rfl dX2_settle_42 ?_
      refine z_getN C inX2_settle_X0 (9 + 2) (wB_bs (z := 2) (by decide)) rfl 0 (by decide) 0 rfl rfl dX2_settle_45 ?_
      refine z_iastN C (18 + z) (wB_gw (z := z) hz) (by omega) (by decide) dX2_settle_48 (wB_set_gw (z := z) hz d (((va_up bs1 2 (zFw a (ab ||| (2 ^ d)))) 2).1)) ?_
      refine z_iinc C dX2_settle_49 3 (nI (d + 1)) rfl (nI_add d 1) (by decide) [(3, .int (nI (d + 1))), (0, .ref (q 0)), (1, .ref (q (12 + z))), (2, .int (nI ab))] rfl ?_
      refine z_goto C 15 dX2_settle_52 (by decide) ?_
      refine zW.pick (lv' := [(0, .ref (q 0)), (1, .ref (q (12 + z))), (2, .int (nI ab)), (3, .int (nI (d + 1)))]) [1, 2, 3, 0] rfl ?_
      exact ih15 (d + 1) (va_up bs1 2 (zFw a (ab ||| (2 ^ d)))) (zup2 gw1 z d (((va_up bs1 2 (zFw a (ab ||| (2 ^ d)))) 2).1)) (by omega) (zst_b (by omega) hb1 _) (zst_g (f := fun e => (zFw a (ab ||| 2 ^ e)).1) hg1 (by rw [va_up_self]))
  exact hlp15 (zNd a) 0 (va_up bs z (zFw a ab)) (va_up gw z (zFil (gw z) 5 0)) (by omega) (zst_b0 _) (zst_g0 (fun e => (zFw a (ab ||| 2 ^ e)).1) 0)
