def zCnt (p : Nat → Bool) : Nat → Nat
  | 0 => 0
  | n + 1 => zCnt p n + (if p n = true then 1 else 0)
/-- the first place from i on, of k places, where p holds; -1 without one -/
def zFst (p : Nat → Bool) (i : Nat) : Nat → Int
  | 0 => -1
  | k + 1 => if p i = true then (i : Int) else zFst p (i + 1) k
def zFil (f : Nat → Int) (n : Nat) (x : Int) : Nat → Int := fun j => if j < n then x else f j
theorem zFil_up (f : Nat → Int) (i : Nat) (x : Int) : va_up (zFil f i x) i x = zFil f (i + 1) x := by
  funext j
  simp only [va_up, zFil]
  by_cases h : j = i
  · subst h
    rw [if_pos rfl, if_pos (by omega)]
  · rw [if_neg h]
    by_cases h2 : j < i
    · rw [if_pos h2, if_pos (by omega)]
    · rw [if_neg h2, if_neg (by omega)]
theorem zFil_0 (f : Nat → Int) (x : Int) : zFil f 0 x = f := by
  funext j
  simp [zFil]
theorem zset_get {w : va_W} {k : Nat} {e e2 : Nat × va_E} (h : w[k]? = some e) : (w.set k e2)[k]? = some e2 := by
  rw [List.getElem?_set_self (List.getElem?_eq_some_iff.mp h).1]
theorem zset_self {w : va_W} {k : Nat} {e : Nat × va_E} (h : w[k]? = some e) : w = w.set k e := by
  obtain ⟨h1, h2⟩ := List.getElem?_eq_some_iff.mp h
  rw [← h2, List.set_getElem_self]
theorem zset_put {g : zG} (w : va_W) (k adr : Nat) {n : Nat} {e1 : va_E} (f : Nat → Int) (i : Nat) (x : Int) : (w.set k (adr, e1)).set k (adr, .inl (zI g, n, .inl (upd (fun j => iZ (f j)) i (iZ x)))) = w.set k (adr, .inl (zI g, n, .inl (fun j => iZ (va_up f i x j)))) := by
  rw [zup_Z, List.set_set]
/-- how many of a bidder's bids are not withdrawn -/
def zLof (a : zS) (d : Nat) : Nat := zCnt (fun b => decide (zOw a b = d) && zGo a b == 0) (zNb a)
section WBF
variable {g : zG} {q : Nat → Nat} {a : zS} {G : Nat → Int} {bs : Nat → Int × Nat} {wb pd gw : Nat → Nat → Int}
theorem wB_fil_wb {z : Nat} (hz : z < 2) (f : Nat → Int) : (wB g q a G bs wb pd gw).set (14 + z) (q (14 + z), .inl (zI g, 5, .inl (fun j => iZ (f j)))) = wB g q a G bs (va_up wb z f) pd gw := by
  match z, hz with
  | 0, _ => rfl
  | 1, _ => rfl
theorem wB_fil_pd {z : Nat} (hz : z < 2) (f : Nat → Int) : (wB g q a G bs wb pd gw).set (16 + z) (q (16 + z), .inl (zI g, 5, .inl (fun j => iZ (f j)))) = wB g q a G bs wb (va_up pd z f) gw := by
  match z, hz with
  | 0, _ => rfl
  | 1, _ => rfl
theorem wB_fil_gw {z : Nat} (hz : z < 2) (f : Nat → Int) : (wB g q a G bs wb pd gw).set (18 + z) (q (18 + z), .inl (zI g, 5, .inl (fun j => iZ (f j)))) = wB g q a G bs wb pd (va_up gw z f) := by
  match z, hz with
  | 0, _ => rfl
  | 1, _ => rfl
end WBF
theorem inX2_reservesOf_X2 : ∀ w ∈ wsX20, w ∈ wsX2_reservesOf := fun w h => List.mem_cons_of_mem _ (List.mem_append_right _ (h))
set_option maxRecDepth 100000 in
set_option maxHeartbeats 4000000 in
theorem c_X2_reservesOf (l : Launch) (g : zG) (q : Nat → Nat) (a : zS) (bs : Nat → Int × Nat) (wb pd gw : Nat → Nat → Int) (G : Nat → Int) (ha : zOk a) (m : Nat) : zM g l yX2_reservesOf wsX2_reservesOf { frames := 1, cells := 0, slots := 0, locals := 21 } [.ref (q 0), .int (nI m)] (wB g q a G bs wb pd gw) (zPi (nI (zRes a m)) (wB g q a G bs wb pd gw)) 0 0 := by
  refine zM.of (cc := cX2_reservesOf) (nL := 4) (ret := (some .int)) (lv := [(0, .ref (q 0)), (1, .int (nI m))]) (by decide) rfl (Nat.le_of_ble_eq_true rfl) rfl ?_
  intro E C0 hi
  have C : zC g E cX2_reservesOf RX2 wsX2_reservesOf 4 (some .int) := C0
  obtain ⟨hnf, hnd, hnb, hou, hrs, hbd⟩ := id ha
  refine z_iconst C (nI 0) dX2_reservesOf_0 (by decide) ?_
  refine z_istore_n C dX2_reservesOf_1 (by decide) [(2, .int (nI 0)), (0, .ref (q 0)), (1, .int (nI m))] rfl ?_
  refine z_iconst C (nI 0) dX2_reservesOf_2 (by decide) ?_
  refine z_istore_n C dX2_reservesOf_3 (by decide) [(3, .int (nI 0)), (2, .int (nI 0)), (0, .ref (q 0)), (1, .int (nI m))] rfl ?_
  refine zW.pick (lv' := [(0, .ref (q 0)), (1, .int (nI m)), (2, .int (nI 0)), (3, .int (nI 0))]) [2, 3, 1, 0] rfl ?_
  have hlp4 : ∀ (k i : Nat), i + k = zNf a → zW g l ({ frames := 1, cells := 0, slots := 0, locals := 21 }) E (zMQ g E (zPi (nI (zRes a m)) (wB g q a G bs wb pd gw)) 0 0) 4 0 0 (wB g q a G bs wb pd gw) [(0, .ref (q 0)), (1, .int (nI m)), (2, .int (nI (zSum (fun f => if m.testBit f = true then zRs a f else 0) i))), (3, .int (nI i))] [] 4 := by
    intro k
    induction k with
    | zero =>
      intro i hik
      refine z_iload_n C dX2_reservesOf_4 3 rfl ?_
      refine z_aload_n C dX2_reservesOf_5 0 rfl ?_
      refine z_get C inX2_reservesOf_X2 0 wB_o rfl 1 (by decide) (C.w 1 rfl) rfl dX2_reservesOf_6 ?_
      refine z_icmp_ge C 35 dX2_reservesOf_9 (by decide) (zle_NN (by omega) (by omega)) (fun c_9 => ?_) (fun h9 => absurd (by omega) h9)
      refine z_iload_n C dX2_reservesOf_35 2 rfl ?_
      exact z_iretP C dX2_reservesOf_36 (by rw [show i = zNf a by omega]; rfl) rfl
    | succ k ih4 =>
      intro i hik
      refine z_iload_n C dX2_reservesOf_4 3 rfl ?_
      refine z_aload_n C dX2_reservesOf_5 0 rfl ?_
      refine z_get C inX2_reservesOf_X2 0 wB_o rfl 1 (by decide) (C.w 1 rfl) rfl dX2_reservesOf_6 ?_
      refine z_icmp_ge C 35 dX2_reservesOf_9 (by decide) (zle_NN (by omega) (by omega)) (fun h9 => absurd h9 (by omega)) (fun c_9 => ?_)
      refine z_iload_n C dX2_reservesOf_12 1 rfl ?_
      refine z_iload_n C dX2_reservesOf_13 3 rfl ?_
      refine z_callS C (c_X2_hasField l g (wB g q a G bs wb pd gw) m i (by omega)) (va_cwS 2 C.ts gX2_reservesOf_X2_hasField rfl rfl rfl (by decide +kernel) ⟨Nat.le_of_ble_eq_true rfl, Nat.le_of_ble_eq_true rfl⟩) rfl rfl (Nat.le_of_ble_eq_true rfl) dX2_reservesOf_14 ⟨Nat.zero_le _, Nat.zero_le _⟩ (z_i ?_)
      refine z_if_eq C 29 dX2_reservesOf_17 (by decide) (zeq_B0 _) (fun c_17 => ?_) (fun c_17 => ?_)
      · skip
        refine z_iinc C dX2_reservesOf_29 3 (nI (i + 1)) rfl (nI_add i 1) (by decide) [(3, .int (nI (i + 1))), (0, .ref (q 0)), (1, .int (nI m)), (2, .int (nI (zSum (fun f => if m.testBit f = true then zRs a f else 0) i)))] rfl ?_
        refine z_goto C 4 dX2_reservesOf_32 (by decide) ?_
        refine zW.pick (lv' := [(0, .ref (q 0)), (1, .int (nI m)), (2, .int (nI (zSum (fun f => if m.testBit f = true then zRs a f else 0) i))), (3, .int (nI (i + 1)))]) [1, 2, 3, 0] rfl ?_
        refine zW.lve (lv' := [(0, .ref (q 0)), (1, .int (nI m)), (2, .int (nI (zSum (fun f => if m.testBit f = true then zRs a f else 0) (i + 1)))), (3, .int (nI (i + 1)))]) (by simp [zSum, c_17]) ?_
        exact ih4 (i + 1) (by omega)
      · skip
        refine z_iload_n C dX2_reservesOf_20 2 rfl ?_
        refine z_aload_n C dX2_reservesOf_21 0 rfl ?_
        refine z_get C inX2_reservesOf_X2 0 wB_o rfl 0 (by decide) (C.w 2 rfl) rfl dX2_reservesOf_22 ?_
        refine z_iload_n C dX2_reservesOf_25 3 rfl ?_
        refine z_ialdN C 1 wB_rs (by omega) (by decide) dX2_reservesOf_26 (v := nI (zRs a i)) rfl ?_
        have f_26b := (ha.rs (f := i) (by omega))
        refine z_iadd C dX2_reservesOf_27 (v := nI ((zSum (fun f => if m.testBit f = true then zRs a f else 0) i) + (zRs a i))) (nI_add (zSum (fun f => if m.testBit f = true then zRs a f else 0) i) (zRs a i)) ?_
        refine z_istore_n C dX2_reservesOf_28 (by decide) [(2, .int (nI ((zSum (fun f => if m.testBit f = true then zRs a f else 0) i) + (zRs a i)))), (0, .ref (q 0)), (1, .int (nI m)), (3, .int (nI i))] rfl ?_
        refine z_iinc C dX2_reservesOf_29 3 (nI (i + 1)) rfl (nI_add i 1) (by decide) [(3, .int (nI (i + 1))), (2, .int (nI ((zSum (fun f => if m.testBit f = true then zRs a f else 0) i) + (zRs a i)))), (0, .ref (q 0)), (1, .int (nI m))] rfl ?_
        refine z_goto C 4 dX2_reservesOf_32 (by decide) ?_
        refine zW.pick (lv' := [(0, .ref (q 0)), (1, .int (nI m)), (2, .int (nI ((zSum (fun f => if m.testBit f = true then zRs a f else 0) i) + (zRs a i)))), (3, .int (nI (i + 1)))]) [2, 3, 1, 0] rfl ?_
        refine zW.lve (lv' := [(0, .ref (q 0)), (1, .int (nI m)), (2, .int (nI (zSum (fun f => if m.testBit f = true then zRs a f else 0) (i + 1)))), (3, .int (nI (i + 1)))]) (by simp [zSum, c_17]) ?_
        exact ih4 (i + 1) (by omega)
  exact hlp4 (zNf a) 0 (by omega)
theorem inX2_counts_X2 : ∀ w ∈ wsX20, w ∈ wsX2_counts := fun w h => List.mem_cons_of_mem _ (List.mem_append_right _ (h))
set_option maxRecDepth 100000 in
set_option maxHeartbeats 4000000 in
theorem c_X2_counts (l : Launch) (g : zG) (q : Nat → Nat) (a : zS) (bs : Nat → Int × Nat) (wb pd gw : Nat → Nat → Int) (ha : zOk a) (b : Nat) (hb : b < zNb a) : zM g l yX2_counts wsX2_counts { frames := 0, cells := 0, slots := 0, locals := 0 } [.ref (q 0), .int (nI b)] (wB g q a (zG0 a) bs wb pd gw) (zPi (bI (zCn a (zOu a) b)) (wB g q a (zG0 a) bs wb pd gw)) 0 0 := by
  refine zM.of (cc := cX2_counts) (nL := 2) (ret := (some .boolean)) (lv := [(0, .ref (q 0)), (1, .int (nI b))]) (by decide) rfl (Nat.le_of_ble_eq_true rfl) rfl ?_
  intro E C0 hi
  have C : zC g E cX2_counts RX2 wsX2_counts 2 (some .boolean) := C0
  obtain ⟨hnf, hnd, hnb, hou, hrs, hbd⟩ := id ha
  refine z_aload_n C dX2_counts_0 0 rfl ?_
  refine z_get C inX2_counts_X2 0 wB_o rfl 9 (by decide) (C.w 1 rfl) rfl dX2_counts_1 ?_
  refine z_iload_n C dX2_counts_4 1 rfl ?_
  refine z_zaldN C 8 wB_go (by omega) (by decide) dX2_counts_5 (v := nI (zGo a b)) rfl ?_
  have f_5b := (ha.go (b := b) (by omega))
  refine z_if_ne C 36 dX2_counts_6 (by decide) (zeq_N0 (by omega)) (fun c_6 => ?_) (fun c_6 => ?_)
  · skip
    refine z_iconst C (nI 0) dX2_counts_36 (by decide) ?_
    exact z_zretP C dX2_counts_37 (by simp_all [bI, zn0, zn1, zCn, zG0, zIn]) rfl
  · skip
    refine z_aload_n C dX2_counts_9 0 rfl ?_
    refine z_get C inX2_counts_X2 0 wB_o rfl 2 (by decide) (C.w 2 rfl) rfl dX2_counts_10 ?_
    refine z_aload_n C dX2_counts_13 0 rfl ?_
    refine z_get C inX2_counts_X2 0 wB_o rfl 4 (by decide) (C.w 3 rfl) rfl dX2_counts_14 ?_
    refine z_iload_n C dX2_counts_17 1 rfl ?_
    refine z_ialdN C 3 wB_ow (by omega) (by decide) dX2_counts_18 (v := nI (zOw a b)) rfl ?_
    have f_18b := (ha.ow (b := b) (by omega))
    refine z_zaldN C 2 wB_in (by omega) (by decide) dX2_counts_19 (v := bI (zIn a (zOw a b))) rfl ?_
    refine z_if_eq C 36 dX2_counts_20 (by decide) (zeq_B0 _) (fun c_20 => ?_) (fun c_20 => ?_)
    · skip
      refine z_iconst C (nI 0) dX2_counts_36 (by decide) ?_
      exact z_zretP C dX2_counts_37 (by simp_all [bI, zn0, zn1, zCn, zG0, zIn]) rfl
    · skip
      refine z_aload_n C dX2_counts_23 0 rfl ?_
      refine z_get C inX2_counts_X2 0 wB_o rfl 7 (by decide) (C.w 4 rfl) rfl dX2_counts_24 ?_
      refine z_iload_n C dX2_counts_27 1 rfl ?_
      refine z_ialdN C 6 wB_G (by omega) (by decide) dX2_counts_28 (v := iZ ((zG0 a) b)) rfl ?_
      have f_28b := (zG0_bnd ha b)
      refine z_if_lt C 36 dX2_counts_29 (by decide) (zlt_Z0 (by unfold zB31; omega)) (fun c_29 => ?_) (fun c_29 => ?_)
      · skip
        refine z_iconst C (nI 0) dX2_counts_36 (by decide) ?_
        exact z_zretP C dX2_counts_37 (by simp_all [bI, zn0, zn1, zCn, zG0, zIn]) rfl
      · skip
        refine z_iconst C (nI 1) dX2_counts_32 (by decide) ?_
        refine z_goto C 37 dX2_counts_33 (by decide) ?_
        exact z_zretP C dX2_counts_37 (by simp_all [bI, zn0, zn1, zCn, zG0, zIn]) rfl
theorem inX2_putPrice_X2 : ∀ w ∈ wsX20, w ∈ wsX2_putPrice := fun w h => List.mem_cons_of_mem _ (List.mem_append_right _ (h))
set_option maxRecDepth 100000 in
set_option maxHeartbeats 4000000 in
theorem c_X2_putPrice (l : Launch) (g : zG) (q : Nat → Nat) (a : zS) (bs : Nat → Int × Nat) (wb pd gw : Nat → Nat → Int) (G : Nat → Int) (ha : zOk a) (b x : Nat) (hb : b < 12) (hx : zOk (zSetPr a b x)) : zM g l yX2_putPrice wsX2_putPrice { frames := 2, cells := 0, slots := 0, locals := 44 } [.ref (q 0), .int (nI b), .int (nI x)] (wB g q a G bs wb pd gw) (zPv (wB g q (zSetPr a b x) (va_up G b ((x : Int) - (zRes a (zBu a b) : Int))) bs wb pd gw)) 0 0 := by
  refine zM.of (cc := cX2_putPrice) (nL := 3) (ret := none) (lv := [(0, .ref (q 0)), (1, .int (nI b)), (2, .int (nI x))]) (by decide) rfl (Nat.le_of_ble_eq_true rfl) rfl ?_
  intro E C0 hi
  have C : zC g E cX2_putPrice RX2 wsX2_putPrice 3 none := C0
  obtain ⟨hnf, hnd, hnb, hou, hrs, hbd⟩ := id ha
  refine z_aload_n C dX2_putPrice_0 0 rfl ?_
  refine z_get C inX2_putPrice_X2 0 wB_o rfl 6 (by decide) (C.w 1 rfl) rfl dX2_putPrice_1 ?_
  refine z_iload_n C dX2_putPrice_4 1 rfl ?_
  refine z_iload_n C dX2_putPrice_5 2 rfl ?_
  refine z_iastN C 5 wB_pr (by omega) (by decide) dX2_putPrice_6 (wB_set_pr b x) ?_
  refine z_aload_n C dX2_putPrice_7 0 rfl ?_
  refine z_get C inX2_putPrice_X2 0 wB_o rfl 7 (by decide) (C.w 2 rfl) rfl dX2_putPrice_8 ?_
  refine z_iload_n C dX2_putPrice_11 1 rfl ?_
  refine z_iload_n C dX2_putPrice_12 2 rfl ?_
  refine z_aload_n C dX2_putPrice_13 0 rfl ?_
  refine z_aload_n C dX2_putPrice_14 0 rfl ?_
  refine z_get C inX2_putPrice_X2 0 wB_o rfl 5 (by decide) (C.w 3 rfl) rfl dX2_putPrice_15 ?_
  refine z_iload_n C dX2_putPrice_18 1 rfl ?_
  refine z_ialdN C 4 wB_bu (by omega) (by decide) dX2_putPrice_19 (v := nI (zBu (zSetPr a b x) b)) rfl ?_
  refine z_callV C (c_X2_reservesOf l g q (zSetPr a b x) bs wb pd gw G hx (zBu (zSetPr a b x) b)) (cwV 1 C.ts gX2_putPrice_X2_reservesOf rfl rfl rfl (by decide +kernel) ⟨Nat.le_of_ble_eq_true rfl, Nat.le_of_ble_eq_true rfl⟩) wB_o rfl rfl rfl (Nat.le_of_ble_eq_true rfl) dX2_putPrice_20 ⟨Nat.zero_le _, Nat.zero_le _⟩ (z_i ?_)
  refine z_isub C dX2_putPrice_23 (v := iZ (((x : Nat) : Int) - ((zRes (zSetPr a b x) (zBu (zSetPr a b x) b) : Nat) : Int))) (iZ_sub ((x : Nat) : Int) ((zRes (zSetPr a b x) (zBu (zSetPr a b x) b) : Nat) : Int)) ?_
  refine z_iastN C 6 wB_G (by omega) (by decide) dX2_putPrice_24 (wB_set_G b (((x : Nat) : Int) - ((zRes (zSetPr a b x) (zBu (zSetPr a b x) b) : Nat) : Int))) ?_
  exact z_vretP C dX2_putPrice_25 rfl
theorem inX2_bidsLeftOf_X2 : ∀ w ∈ wsX20, w ∈ wsX2_bidsLeftOf := fun w h => List.mem_cons_of_mem _ (List.mem_append_right _ (h))
set_option maxRecDepth 100000 in
set_option maxHeartbeats 4000000 in
theorem c_X2_bidsLeftOf (l : Launch) (g : zG) (q : Nat → Nat) (a : zS) (bs : Nat → Int × Nat) (wb pd gw : Nat → Nat → Int) (ha : zOk a) (d : Nat) (hd : d < zNd a) : zM g l yX2_bidsLeftOf wsX2_bidsLeftOf { frames := 0, cells := 0, slots := 0, locals := 0 } [.ref (q 0), .int (nI d)] (wB g q a (zG0 a) bs wb pd gw) (zPi (nI (zLof a d)) (wB g q a (zG0 a) bs wb pd gw)) 0 0 := by
  refine zM.of (cc := cX2_bidsLeftOf) (nL := 4) (ret := (some .int)) (lv := [(0, .ref (q 0)), (1, .int (nI d))]) (by decide) rfl (Nat.le_of_ble_eq_true rfl) rfl ?_
  intro E C0 hi
  have C : zC g E cX2_bidsLeftOf RX2 wsX2_bidsLeftOf 4 (some .int) := C0
  obtain ⟨hnf, hnd, hnb, hou, hrs, hbd⟩ := id ha
  refine z_iconst C (nI 0) dX2_bidsLeftOf_0 (by decide) ?_
  refine z_istore_n C dX2_bidsLeftOf_1 (by decide) [(2, .int (nI 0)), (0, .ref (q 0)), (1, .int (nI d))] rfl ?_
  refine z_iconst C (nI 0) dX2_bidsLeftOf_2 (by decide) ?_
  refine z_istore_n C dX2_bidsLeftOf_3 (by decide) [(3, .int (nI 0)), (2, .int (nI 0)), (0, .ref (q 0)), (1, .int (nI d))] rfl ?_
  refine zW.pick (lv' := [(0, .ref (q 0)), (1, .int (nI d)), (2, .int (nI 0)), (3, .int (nI 0))]) [2, 3, 1, 0] rfl ?_
  have hlp4 : ∀ (k i : Nat), i + k = zNb a → zW g l ({ frames := 0, cells := 0, slots := 0, locals := 0 }) E (zMQ g E (zPi (nI (zLof a d)) (wB g q a (zG0 a) bs wb pd gw)) 0 0) 4 0 0 (wB g q a (zG0 a) bs wb pd gw) [(0, .ref (q 0)), (1, .int (nI d)), (2, .int (nI (zCnt (fun b => decide (zOw a b = d) && zGo a b == 0) i))), (3, .int (nI i))] [] 4 := by
    intro k
    induction k with
    | zero =>
      intro i hik
      refine z_iload_n C dX2_bidsLeftOf_4 3 rfl ?_
      refine z_aload_n C dX2_bidsLeftOf_5 0 rfl ?_
      refine z_get C inX2_bidsLeftOf_X2 0 wB_o rfl 10 (by decide) (C.w 1 rfl) rfl dX2_bidsLeftOf_6 ?_
      refine z_icmp_ge C 40 dX2_bidsLeftOf_9 (by decide) (zle_NN (by omega) (by omega)) (fun c_9 => ?_) (fun h9 => absurd (by omega) h9)
      refine z_iload_n C dX2_bidsLeftOf_40 2 rfl ?_
      exact z_iretP C dX2_bidsLeftOf_41 (by rw [show i = zNb a by omega]; rfl) rfl
    | succ k ih4 =>
      intro i hik
      refine z_iload_n C dX2_bidsLeftOf_4 3 rfl ?_
      refine z_aload_n C dX2_bidsLeftOf_5 0 rfl ?_
      refine z_get C inX2_bidsLeftOf_X2 0 wB_o rfl 10 (by decide) (C.w 1 rfl) rfl dX2_bidsLeftOf_6 ?_
      refine z_icmp_ge C 40 dX2_bidsLeftOf_9 (by decide) (zle_NN (by omega) (by omega)) (fun h9 => absurd h9 (by omega)) (fun c_9 => ?_)
      refine z_aload_n C dX2_bidsLeftOf_12 0 rfl ?_
      refine z_get C inX2_bidsLeftOf_X2 0 wB_o rfl 4 (by decide) (C.w 2 rfl) rfl dX2_bidsLeftOf_13 ?_
      refine z_iload_n C dX2_bidsLeftOf_16 3 rfl ?_
      refine z_ialdN C 3 wB_ow (by omega) (by decide) dX2_bidsLeftOf_17 (v := nI (zOw a i)) rfl ?_
      have f_17b := (ha.ow (b := i) (by omega))
      refine z_iload_n C dX2_bidsLeftOf_18 1 rfl ?_
      refine z_icmp_ne C 34 dX2_bidsLeftOf_19 (by decide) (zeq_NN (by omega) (by omega)) (fun c_19 => ?_) (fun c_19 => ?_)
      · skip
        refine z_iinc C dX2_bidsLeftOf_34 3 (nI (i + 1)) rfl (nI_add i 1) (by decide) [(3, .int (nI (i + 1))), (0, .ref (q 0)), (1, .int (nI d)), (2, .int (nI (zCnt (fun b => decide (zOw a b = d) && zGo a b == 0) i)))] rfl ?_
        refine z_goto C 4 dX2_bidsLeftOf_37 (by decide) ?_
        refine zW.pick (lv' := [(0, .ref (q 0)), (1, .int (nI d)), (2, .int (nI (zCnt (fun b => decide (zOw a b = d) && zGo a b == 0) i))), (3, .int (nI (i + 1)))]) [1, 2, 3, 0] rfl ?_
        refine zW.lve (lv' := [(0, .ref (q 0)), (1, .int (nI d)), (2, .int (nI (zCnt (fun b => decide (zOw a b = d) && zGo a b == 0) (i + 1)))), (3, .int (nI (i + 1)))]) (by simp_all [zCnt]) ?_
        exact ih4 (i + 1) (by omega)
      · skip
        refine z_aload_n C dX2_bidsLeftOf_22 0 rfl ?_
        refine z_get C inX2_bidsLeftOf_X2 0 wB_o rfl 9 (by decide) (C.w 3 rfl) rfl dX2_bidsLeftOf_23 ?_
        refine z_iload_n C dX2_bidsLeftOf_26 3 rfl ?_
        refine z_zaldN C 8 wB_go (by omega) (by decide) dX2_bidsLeftOf_27 (v := nI (zGo a i)) rfl ?_
        have f_27b := (ha.go (b := i) (by omega))
        refine z_if_ne C 34 dX2_bidsLeftOf_28 (by decide) (zeq_N0 (by omega)) (fun c_28 => ?_) (fun c_28 => ?_)
        · skip
          refine z_iinc C dX2_bidsLeftOf_34 3 (nI (i + 1)) rfl (nI_add i 1) (by decide) [(3, .int (nI (i + 1))), (0, .ref (q 0)), (1, .int (nI d)), (2, .int (nI (zCnt (fun b => decide (zOw a b = d) && zGo a b == 0) i)))] rfl ?_
          refine z_goto C 4 dX2_bidsLeftOf_37 (by decide) ?_
          refine zW.pick (lv' := [(0, .ref (q 0)), (1, .int (nI d)), (2, .int (nI (zCnt (fun b => decide (zOw a b = d) && zGo a b == 0) i))), (3, .int (nI (i + 1)))]) [1, 2, 3, 0] rfl ?_
          refine zW.lve (lv' := [(0, .ref (q 0)), (1, .int (nI d)), (2, .int (nI (zCnt (fun b => decide (zOw a b = d) && zGo a b == 0) (i + 1)))), (3, .int (nI (i + 1)))]) (by simp_all [zCnt]) ?_
          exact ih4 (i + 1) (by omega)
        · skip
          refine z_iinc C dX2_bidsLeftOf_31 2 (nI (zCnt (fun b => decide (zOw a b = d) && zGo a b == 0) i + 1)) rfl (nI_add (zCnt (fun b => decide (zOw a b = d) && zGo a b == 0) i) 1) (by decide) [(2, .int (nI (zCnt (fun b => decide (zOw a b = d) && zGo a b == 0) i + 1))), (0, .ref (q 0)), (1, .int (nI d)), (3, .int (nI i))] rfl ?_
          refine z_iinc C dX2_bidsLeftOf_34 3 (nI (i + 1)) rfl (nI_add i 1) (by decide) [(3, .int (nI (i + 1))), (2, .int (nI (zCnt (fun b => decide (zOw a b = d) && zGo a b == 0) i + 1))), (0, .ref (q 0)), (1, .int (nI d))] rfl ?_
          refine z_goto C 4 dX2_bidsLeftOf_37 (by decide) ?_
          refine zW.pick (lv' := [(0, .ref (q 0)), (1, .int (nI d)), (2, .int (nI (zCnt (fun b => decide (zOw a b = d) && zGo a b == 0) i + 1))), (3, .int (nI (i + 1)))]) [2, 3, 1, 0] rfl ?_
          refine zW.lve (lv' := [(0, .ref (q 0)), (1, .int (nI d)), (2, .int (nI (zCnt (fun b => decide (zOw a b = d) && zGo a b == 0) (i + 1)))), (3, .int (nI (i + 1)))]) (by simp_all [zCnt]) ?_
          exact ih4 (i + 1) (by omega)
  exact hlp4 (zNb a) 0 (by omega)
theorem inX2_bidsLeft_X2 : ∀ w ∈ wsX20, w ∈ wsX2_bidsLeft := fun w h => List.mem_cons_of_mem _ (List.mem_append_right _ (h))
set_option maxRecDepth 100000 in
set_option maxHeartbeats 4000000 in
theorem c_X2_bidsLeft (l : Launch) (g : zG) (q : Nat → Nat) (a : zS) (bs : Nat → Int × Nat) (wb pd gw : Nat → Nat → Int) (ha : zOk a) : zM g l yX2_bidsLeft wsX2_bidsLeft { frames := 1, cells := 0, slots := 0, locals := 23 } [.ref (q 0)] (wB g q a (zG0 a) bs wb pd gw) (zPi (nI (zSum (zLof a) (zNd a))) (wB g q a (zG0 a) bs wb pd gw)) 0 0 := by
  refine zM.of (cc := cX2_bidsLeft) (nL := 3) (ret := (some .int)) (lv := [(0, .ref (q 0))]) (by decide) rfl (Nat.le_of_ble_eq_true rfl) rfl ?_
  intro E C0 hi
  have C : zC g E cX2_bidsLeft RX2 wsX2_bidsLeft 3 (some .int) := C0
  obtain ⟨hnf, hnd, hnb, hou, hrs, hbd⟩ := id ha
  refine z_iconst C (nI 0) dX2_bidsLeft_0 (by decide) ?_
  refine z_istore_n C dX2_bidsLeft_1 (by decide) [(1, .int (nI 0)), (0, .ref (q 0))] rfl ?_
  refine z_iconst C (nI 0) dX2_bidsLeft_2 (by decide) ?_
  refine z_istore_n C dX2_bidsLeft_3 (by decide) [(2, .int (nI 0)), (1, .int (nI 0)), (0, .ref (q 0))] rfl ?_
  refine zW.pick (lv' := [(0, .ref (q 0)), (1, .int (nI 0)), (2, .int (nI 0))]) [2, 1, 0] rfl ?_
  have hlp4 : ∀ (k i : Nat), i + k = zNd a → zW g l ({ frames := 1, cells := 0, slots := 0, locals := 23 }) E (zMQ g E (zPi (nI (zSum (zLof a) (zNd a))) (wB g q a (zG0 a) bs wb pd gw)) 0 0) 3 0 0 (wB g q a (zG0 a) bs wb pd gw) [(0, .ref (q 0)), (1, .int (nI (zSum (zLof a) i))), (2, .int (nI i))] [] 4 := by
    intro k
    induction k with
    | zero =>
      intro i hik
      refine z_iload_n C dX2_bidsLeft_4 2 rfl ?_
      refine z_aload_n C dX2_bidsLeft_5 0 rfl ?_
      refine z_get C inX2_bidsLeft_X2 0 wB_o rfl 3 (by decide) (C.w 1 rfl) rfl dX2_bidsLeft_6 ?_
      refine z_icmp_ge C 26 dX2_bidsLeft_9 (by decide) (zle_NN (by omega) (by omega)) (fun c_9 => ?_) (fun h9 => absurd (by omega) h9)
      refine z_iload_n C dX2_bidsLeft_26 1 rfl ?_
      exact z_iretP C dX2_bidsLeft_27 (by rw [show i = zNd a by omega]) rfl
    | succ k ih4 =>
      intro i hik
      refine z_iload_n C dX2_bidsLeft_4 2 rfl ?_
      refine z_aload_n C dX2_bidsLeft_5 0 rfl ?_
      refine z_get C inX2_bidsLeft_X2 0 wB_o rfl 3 (by decide) (C.w 1 rfl) rfl dX2_bidsLeft_6 ?_
      refine z_icmp_ge C 26 dX2_bidsLeft_9 (by decide) (zle_NN (by omega) (by omega)) (fun h9 => absurd h9 (by omega)) (fun c_9 => ?_)
      refine z_iload_n C dX2_bidsLeft_12 1 rfl ?_
      refine z_aload_n C dX2_bidsLeft_13 0 rfl ?_
      refine z_iload_n C dX2_bidsLeft_14 2 rfl ?_
      refine z_callV C (c_X2_bidsLeftOf l g q a bs wb pd gw ha i (by omega)) (cwV 1 C.ts gX2_bidsLeft_X2_bidsLeftOf rfl rfl rfl (by decide +kernel) ⟨Nat.le_of_ble_eq_true rfl, Nat.le_of_ble_eq_true rfl⟩) wB_o rfl rfl rfl (Nat.le_of_ble_eq_true rfl) dX2_bidsLeft_15 ⟨Nat.zero_le _, Nat.zero_le _⟩ (z_i ?_)
      refine z_iadd C dX2_bidsLeft_18 (v := nI ((zSum (zLof a) i) + (zLof a i))) (nI_add (zSum (zLof a) i) (zLof a i)) ?_
      refine z_istore_n C dX2_bidsLeft_19 (by decide) [(1, .int (nI ((zSum (zLof a) i) + (zLof a i)))), (0, .ref (q 0)), (2, .int (nI i))] rfl ?_
      refine z_iinc C dX2_bidsLeft_20 2 (nI (i + 1)) rfl (nI_add i 1) (by decide) [(2, .int (nI (i + 1))), (1, .int (nI ((zSum (zLof a) i) + (zLof a i)))), (0, .ref (q 0))] rfl ?_
      refine z_goto C 4 dX2_bidsLeft_23 (by decide) ?_
      refine zW.pick (lv' := [(0, .ref (q 0)), (1, .int (nI ((zSum (zLof a) i) + (zLof a i)))), (2, .int (nI (i + 1)))]) [2, 1, 0] rfl ?_
      refine zW.lve (lv' := [(0, .ref (q 0)), (1, .int (nI (zSum (zLof a) (i + 1)))), (2, .int (nI (i + 1)))]) (rfl) ?_
      exact ih4 (i + 1) (by omega)
  exact hlp4 (zNd a) 0 (by omega)
theorem inX2_countingBidsWith_X2 : ∀ w ∈ wsX20, w ∈ wsX2_countingBidsWith := fun w h => List.mem_cons_of_mem _ (List.mem_append_right _ (h))
set_option maxRecDepth 100000 in
set_option maxHeartbeats 4000000 in
theorem c_X2_countingBidsWith (l : Launch) (g : zG) (q : Nat → Nat) (a : zS) (bs : Nat → Int × Nat) (wb pd gw : Nat → Nat → Int) (ha : zOk a) (f : Nat) (hf : f < 8) : zM g l yX2_countingBidsWith wsX2_countingBidsWith { frames := 1, cells := 0, slots := 0, locals := 21 } [.ref (q 0), .int (nI f)] (wB g q a (zG0 a) bs wb pd gw) (zPi (nI (zCnt (fun b => zCn a (zOu a) b && (zBu a b).testBit f) (zNb a))) (wB g q a (zG0 a) bs wb pd gw)) 0 0 := by
  refine zM.of (cc := cX2_countingBidsWith) (nL := 4) (ret := (some .int)) (lv := [(0, .ref (q 0)), (1, .int (nI f))]) (by decide) rfl (Nat.le_of_ble_eq_true rfl) rfl ?_
  intro E C0 hi
  have C : zC g E cX2_countingBidsWith RX2 wsX2_countingBidsWith 4 (some .int) := C0
  obtain ⟨hnf, hnd, hnb, hou, hrs, hbd⟩ := id ha
  refine z_iconst C (nI 0) dX2_countingBidsWith_0 (by decide) ?_
  refine z_istore_n C dX2_countingBidsWith_1 (by decide) [(2, .int (nI 0)), (0, .ref (q 0)), (1, .int (nI f))] rfl ?_
  refine z_iconst C (nI 0) dX2_countingBidsWith_2 (by decide) ?_
  refine z_istore_n C dX2_countingBidsWith_3 (by decide) [(3, .int (nI 0)), (2, .int (nI 0)), (0, .ref (q 0)), (1, .int (nI f))] rfl ?_
  refine zW.pick (lv' := [(0, .ref (q 0)), (1, .int (nI f)), (2, .int (nI 0)), (3, .int (nI 0))]) [2, 3, 1, 0] rfl ?_
  have hlp4 : ∀ (k i : Nat), i + k = zNb a → zW g l ({ frames := 1, cells := 0, slots := 0, locals := 21 }) E (zMQ g E (zPi (nI (zCnt (fun b => zCn a (zOu a) b && (zBu a b).testBit f) (zNb a))) (wB g q a (zG0 a) bs wb pd gw)) 0 0) 4 0 0 (wB g q a (zG0 a) bs wb pd gw) [(0, .ref (q 0)), (1, .int (nI f)), (2, .int (nI (zCnt (fun b => zCn a (zOu a) b && (zBu a b).testBit f) i))), (3, .int (nI i))] [] 4 := by
    intro k
    induction k with
    | zero =>
      intro i hik
      refine z_iload_n C dX2_countingBidsWith_4 3 rfl ?_
      refine z_aload_n C dX2_countingBidsWith_5 0 rfl ?_
      refine z_get C inX2_countingBidsWith_X2 0 wB_o rfl 10 (by decide) (C.w 1 rfl) rfl dX2_countingBidsWith_6 ?_
      refine z_icmp_ge C 42 dX2_countingBidsWith_9 (by decide) (zle_NN (by omega) (by omega)) (fun c_9 => ?_) (fun h9 => absurd (by omega) h9)
      refine z_iload_n C dX2_countingBidsWith_42 2 rfl ?_
      exact z_iretP C dX2_countingBidsWith_43 (by rw [show i = zNb a by omega]) rfl
    | succ k ih4 =>
      intro i hik
      refine z_iload_n C dX2_countingBidsWith_4 3 rfl ?_
      refine z_aload_n C dX2_countingBidsWith_5 0 rfl ?_
      refine z_get C inX2_countingBidsWith_X2 0 wB_o rfl 10 (by decide) (C.w 1 rfl) rfl dX2_countingBidsWith_6 ?_
      refine z_icmp_ge C 42 dX2_countingBidsWith_9 (by decide) (zle_NN (by omega) (by omega)) (fun h9 => absurd h9 (by omega)) (fun c_9 => ?_)
      refine z_aload_n C dX2_countingBidsWith_12 0 rfl ?_
      refine z_iload_n C dX2_countingBidsWith_13 3 rfl ?_
      refine z_callV C (c_X2_counts l g q a bs wb pd gw ha i (by omega)) (cwV 1 C.ts gX2_countingBidsWith_X2_counts rfl rfl rfl (by decide +kernel) ⟨Nat.le_of_ble_eq_true rfl, Nat.le_of_ble_eq_true rfl⟩) wB_o rfl rfl rfl (Nat.le_of_ble_eq_true rfl) dX2_countingBidsWith_14 ⟨Nat.zero_le _, Nat.zero_le _⟩ (z_i ?_)
      refine z_if_eq C 36 dX2_countingBidsWith_17 (by decide) (zeq_B0 _) (fun c_17 => ?_) (fun c_17 => ?_)
      · skip
        refine z_iinc C dX2_countingBidsWith_36 3 (nI (i + 1)) rfl (nI_add i 1) (by decide) [(3, .int (nI (i + 1))), (0, .ref (q 0)), (1, .int (nI f)), (2, .int (nI (zCnt (fun b => zCn a (zOu a) b && (zBu a b).testBit f) i)))] rfl ?_
        refine z_goto C 4 dX2_countingBidsWith_39 (by decide) ?_
        refine zW.pick (lv' := [(0, .ref (q 0)), (1, .int (nI f)), (2, .int (nI (zCnt (fun b => zCn a (zOu a) b && (zBu a b).testBit f) i))), (3, .int (nI (i + 1)))]) [1, 2, 3, 0] rfl ?_
        refine zW.lve (lv' := [(0, .ref (q 0)), (1, .int (nI f)), (2, .int (nI (zCnt (fun b => zCn a (zOu a) b && (zBu a b).testBit f) (i + 1)))), (3, .int (nI (i + 1)))]) (by simp_all [zCnt]) ?_
        exact ih4 (i + 1) (by omega)
      · skip
        refine z_aload_n C dX2_countingBidsWith_20 0 rfl ?_
        refine z_get C inX2_countingBidsWith_X2 0 wB_o rfl 5 (by decide) (C.w 2 rfl) rfl dX2_countingBidsWith_21 ?_
        refine z_iload_n C dX2_countingBidsWith_24 3 rfl ?_
        refine z_ialdN C 4 wB_bu (by omega) (by decide) dX2_countingBidsWith_25 (v := nI (zBu a i)) rfl ?_
        have f_25b := (ha.bu8 (b := i) (by omega))
        refine z_iload_n C dX2_countingBidsWith_26 1 rfl ?_
        refine z_callS C (c_X2_hasField l g (wB g q a (zG0 a) bs wb pd gw) (zBu a i) f (by omega)) (va_cwS 2 C.ts gX2_countingBidsWith_X2_hasField rfl rfl rfl (by decide +kernel) ⟨Nat.le_of_ble_eq_true rfl, Nat.le_of_ble_eq_true rfl⟩) rfl rfl (Nat.le_of_ble_eq_true rfl) dX2_countingBidsWith_27 ⟨Nat.zero_le _, Nat.zero_le _⟩ (z_i ?_)
        refine z_if_eq C 36 dX2_countingBidsWith_30 (by decide) (zeq_B0 _) (fun c_30 => ?_) (fun c_30 => ?_)
        · skip
          refine z_iinc C dX2_countingBidsWith_36 3 (nI (i + 1)) rfl (nI_add i 1) (by decide) [(3, .int (nI (i + 1))), (0, .ref (q 0)), (1, .int (nI f)), (2, .int (nI (zCnt (fun b => zCn a (zOu a) b && (zBu a b).testBit f) i)))] rfl ?_
          refine z_goto C 4 dX2_countingBidsWith_39 (by decide) ?_
          refine zW.pick (lv' := [(0, .ref (q 0)), (1, .int (nI f)), (2, .int (nI (zCnt (fun b => zCn a (zOu a) b && (zBu a b).testBit f) i))), (3, .int (nI (i + 1)))]) [1, 2, 3, 0] rfl ?_
          refine zW.lve (lv' := [(0, .ref (q 0)), (1, .int (nI f)), (2, .int (nI (zCnt (fun b => zCn a (zOu a) b && (zBu a b).testBit f) (i + 1)))), (3, .int (nI (i + 1)))]) (by simp_all [zCnt]) ?_
          exact ih4 (i + 1) (by omega)
        · skip
          refine z_iinc C dX2_countingBidsWith_33 2 (nI (zCnt (fun b => zCn a (zOu a) b && (zBu a b).testBit f) i + 1)) rfl (nI_add (zCnt (fun b => zCn a (zOu a) b && (zBu a b).testBit f) i) 1) (by decide) [(2, .int (nI (zCnt (fun b => zCn a (zOu a) b && (zBu a b).testBit f) i + 1))), (0, .ref (q 0)), (1, .int (nI f)), (3, .int (nI i))] rfl ?_
          refine z_iinc C dX2_countingBidsWith_36 3 (nI (i + 1)) rfl (nI_add i 1) (by decide) [(3, .int (nI (i + 1))), (2, .int (nI (zCnt (fun b => zCn a (zOu a) b && (zBu a b).testBit f) i + 1))), (0, .ref (q 0)), (1, .int (nI f))] rfl ?_
          refine z_goto C 4 dX2_countingBidsWith_39 (by decide) ?_
          refine zW.pick (lv' := [(0, .ref (q 0)), (1, .int (nI f)), (2, .int (nI (zCnt (fun b => zCn a (zOu a) b && (zBu a b).testBit f) i + 1))), (3, .int (nI (i + 1)))]) [2, 3, 1, 0] rfl ?_
          refine zW.lve (lv' := [(0, .ref (q 0)), (1, .int (nI f)), (2, .int (nI (zCnt (fun b => zCn a (zOu a) b && (zBu a b).testBit f) (i + 1)))), (3, .int (nI (i + 1)))]) (by simp_all [zCnt]) ?_
          exact ih4 (i + 1) (by omega)
  exact hlp4 (zNb a) 0 (by omega)
set_option maxRecDepth 100000 in
set_option maxHeartbeats 4000000 in
theorem c_X2_ownerOf_no (l : Launch) (g : zG) (q : Nat → Nat) (a : zS) (bs : Nat → Int × Nat) (wb pd gw : Nat → Nat → Int) (ha : zOk a) : zM g l yX2_ownerOf wsX2_ownerOf { frames := 0, cells := 0, slots := 0, locals := 0 } [.ref (q 0), .int (iZ (-1))] (wB g q a (zG0 a) bs wb pd gw) (zPi (iZ (-1)) (wB g q a (zG0 a) bs wb pd gw)) 0 0 := by
  refine zM.of (cc := cX2_ownerOf) (nL := 2) (ret := (some .int)) (lv := [(0, .ref (q 0)), (1, .int (iZ (-1)))]) (by decide) rfl (Nat.le_of_ble_eq_true rfl) rfl ?_
  intro E C0 hi
  have C : zC g E cX2_ownerOf RX2 wsX2_ownerOf 2 (some .int) := C0
  obtain ⟨hnf, hnd, hnb, hou, hrs, hbd⟩ := id ha
  refine z_iload_n C dX2_ownerOf_0 1 rfl ?_
  refine z_iconst C (iZ (-1)) dX2_ownerOf_1 (by decide) ?_
  refine z_icmp_ne C 9 dX2_ownerOf_2 (by decide) Iff.rfl (fun h9 => absurd rfl h9) (fun c_2 => ?_)
  refine z_iconst C (iZ (-1)) dX2_ownerOf_5 (by decide) ?_
  refine z_goto C 15 dX2_ownerOf_6 (by decide) ?_
  exact z_iretP C dX2_ownerOf_15 rfl rfl
theorem inX2_ownerOf_X2 : ∀ w ∈ wsX20, w ∈ wsX2_ownerOf := fun w h => List.mem_cons_of_mem _ (List.mem_append_right _ (h))
set_option maxRecDepth 100000 in
set_option maxHeartbeats 4000000 in
theorem c_X2_ownerOf (l : Launch) (g : zG) (q : Nat → Nat) (a : zS) (bs : Nat → Int × Nat) (wb pd gw : Nat → Nat → Int) (ha : zOk a) (b : Nat) (hb : b < zNb a) : zM g l yX2_ownerOf wsX2_ownerOf { frames := 0, cells := 0, slots := 0, locals := 0 } [.ref (q 0), .int (nI b)] (wB g q a (zG0 a) bs wb pd gw) (zPi (nI (zOw a b)) (wB g q a (zG0 a) bs wb pd gw)) 0 0 := by
  refine zM.of (cc := cX2_ownerOf) (nL := 2) (ret := (some .int)) (lv := [(0, .ref (q 0)), (1, .int (nI b))]) (by decide) rfl (Nat.le_of_ble_eq_true rfl) rfl ?_
  intro E C0 hi
  have C : zC g E cX2_ownerOf RX2 wsX2_ownerOf 2 (some .int) := C0
  obtain ⟨hnf, hnd, hnb, hou, hrs, hbd⟩ := id ha
  refine z_iload_n C dX2_ownerOf_0 1 rfl ?_
  refine z_iconst C (iZ (-1)) dX2_ownerOf_1 (by decide) ?_
  refine z_icmp_ne C 9 dX2_ownerOf_2 (by decide) (zeq_ZZ (x := ((b : Nat) : Int)) (y := (-1)) (by unfold zB31; omega) (by unfold zB31; omega)) (fun c_2 => ?_) (fun h9 => absurd h9 (by omega))
  refine z_aload_n C dX2_ownerOf_9 0 rfl ?_
  refine z_get C inX2_ownerOf_X2 0 wB_o rfl 4 (by decide) (C.w 1 rfl) rfl dX2_ownerOf_10 ?_
  refine z_iload_n C dX2_ownerOf_13 1 rfl ?_
  refine z_ialdN C 3 wB_ow (by omega) (by decide) dX2_ownerOf_14 (v := nI (zOw a b)) rfl ?_
  have f_14b := (ha.ow (b := b) (by omega))
  exact z_iretP C dX2_ownerOf_15 rfl rfl
set_option maxRecDepth 100000 in
set_option maxHeartbeats 4000000 in
theorem c_X2_asNumber  (l : Launch) (g : zG) (w : va_W) (b : Bool) : zM g l yX2_asNumber wsX2_asNumber { frames := 0, cells := 0, slots := 0, locals := 0 } [.int (bI b)] (w) (zPi (bI b) (w)) 0 0 := by
  refine zM.of (cc := cX2_asNumber) (nL := 1) (ret := (some .int)) (lv := [(0, .int (bI b))]) (by decide) rfl (Nat.le_of_ble_eq_true rfl) rfl ?_
  intro E C0 hi
  have C : zC g E cX2_asNumber RX2 wsX2_asNumber 1 (some .int) := C0
  refine z_iload_n C dX2_asNumber_0 0 rfl ?_
  refine z_if_eq C 8 dX2_asNumber_1 (by decide) (zeq_B0 _) (fun c_1 => ?_) (fun c_1 => ?_)
  · skip
    refine z_iconst C (nI 0) dX2_asNumber_8 (by decide) ?_
    exact z_iretP C dX2_asNumber_9 (by simp_all [bI, zn0, zn1]) rfl
  · skip
    refine z_iconst C (nI 1) dX2_asNumber_4 (by decide) ?_
    refine z_goto C 9 dX2_asNumber_5 (by decide) ?_
    exact z_iretP C dX2_asNumber_9 (by simp_all [bI, zn0, zn1]) rfl
theorem inX2_requireField_X2 : ∀ w ∈ wsX20, w ∈ wsX2_requireField := fun w h => List.mem_cons_of_mem _ (List.mem_append_left _ (List.mem_append_right _ (h)))
set_option maxRecDepth 100000 in
set_option maxHeartbeats 4000000 in
theorem c_X2_requireField (l : Launch) (g : zG) (q : Nat → Nat) (a : zS) (bs : Nat → Int × Nat) (wb pd gw : Nat → Nat → Int) (ha : zOk a) (x : Nat) (hx : x < zNf a) : zM g l yX2_requireField wsX2_requireField { frames := 0, cells := 0, slots := 0, locals := 0 } [.ref (q 0), .int (nI x)] (wB g q a (zG0 a) bs wb pd gw) (zPv (wB g q a (zG0 a) bs wb pd gw)) 0 0 := by
  refine zM.of (cc := cX2_requireField) (nL := 2) (ret := none) (lv := [(0, .ref (q 0)), (1, .int (nI x))]) (by decide) rfl (Nat.le_of_ble_eq_true rfl) rfl ?_
  intro E C0 hi
  have C : zC g E cX2_requireField RX2 wsX2_requireField 2 none := C0
  obtain ⟨hnf, hnd, hnb, hou, hrs, hbd⟩ := id ha
  refine z_iload_n C dX2_requireField_0 1 rfl ?_
  refine z_if_lt C 12 dX2_requireField_1 (by decide) (zlt_N0 (by omega)) (fun h9 => absurd h9 id) (fun c_1 => ?_)
  refine z_iload_n C dX2_requireField_4 1 rfl ?_
  refine z_aload_n C dX2_requireField_5 0 rfl ?_
  refine z_get C inX2_requireField_X2 0 wB_o rfl 1 (by decide) (C.w 3 rfl) rfl dX2_requireField_6 ?_
  refine z_icmp_lt C 22 dX2_requireField_9 (by decide) (zlt_NN (by omega) (by omega)) (fun c_9 => ?_) (fun h9 => absurd (by omega) h9)
  exact z_vretP C dX2_requireField_22 rfl
theorem inX2_requireBidder_X2 : ∀ w ∈ wsX20, w ∈ wsX2_requireBidder := fun w h => List.mem_cons_of_mem _ (List.mem_append_left _ (List.mem_append_right _ (h)))
set_option maxRecDepth 100000 in
set_option maxHeartbeats 4000000 in
theorem c_X2_requireBidder (l : Launch) (g : zG) (q : Nat → Nat) (a : zS) (bs : Nat → Int × Nat) (wb pd gw : Nat → Nat → Int) (ha : zOk a) (x : Nat) (hx : x < zNd a) : zM g l yX2_requireBidder wsX2_requireBidder { frames := 0, cells := 0, slots := 0, locals := 0 } [.ref (q 0), .int (nI x)] (wB g q a (zG0 a) bs wb pd gw) (zPv (wB g q a (zG0 a) bs wb pd gw)) 0 0 := by
  refine zM.of (cc := cX2_requireBidder) (nL := 2) (ret := none) (lv := [(0, .ref (q 0)), (1, .int (nI x))]) (by decide) rfl (Nat.le_of_ble_eq_true rfl) rfl ?_
  intro E C0 hi
  have C : zC g E cX2_requireBidder RX2 wsX2_requireBidder 2 none := C0
  obtain ⟨hnf, hnd, hnb, hou, hrs, hbd⟩ := id ha
  refine z_iload_n C dX2_requireBidder_0 1 rfl ?_
  refine z_if_lt C 12 dX2_requireBidder_1 (by decide) (zlt_N0 (by omega)) (fun h9 => absurd h9 id) (fun c_1 => ?_)
  refine z_iload_n C dX2_requireBidder_4 1 rfl ?_
  refine z_aload_n C dX2_requireBidder_5 0 rfl ?_
  refine z_get C inX2_requireBidder_X2 0 wB_o rfl 3 (by decide) (C.w 3 rfl) rfl dX2_requireBidder_6 ?_
  refine z_icmp_lt C 22 dX2_requireBidder_9 (by decide) (zlt_NN (by omega) (by omega)) (fun c_9 => ?_) (fun h9 => absurd (by omega) h9)
  exact z_vretP C dX2_requireBidder_22 rfl
theorem inX2_requireBid_X2 : ∀ w ∈ wsX20, w ∈ wsX2_requireBid := fun w h => List.mem_cons_of_mem _ (List.mem_append_left _ (List.mem_append_right _ (h)))
set_option maxRecDepth 100000 in
set_option maxHeartbeats 4000000 in
theorem c_X2_requireBid (l : Launch) (g : zG) (q : Nat → Nat) (a : zS) (bs : Nat → Int × Nat) (wb pd gw : Nat → Nat → Int) (ha : zOk a) (x : Nat) (hx : x < zNb a) : zM g l yX2_requireBid wsX2_requireBid { frames := 0, cells := 0, slots := 0, locals := 0 } [.ref (q 0), .int (nI x)] (wB g q a (zG0 a) bs wb pd gw) (zPv (wB g q a (zG0 a) bs wb pd gw)) 0 0 := by
  refine zM.of (cc := cX2_requireBid) (nL := 2) (ret := none) (lv := [(0, .ref (q 0)), (1, .int (nI x))]) (by decide) rfl (Nat.le_of_ble_eq_true rfl) rfl ?_
  intro E C0 hi
  have C : zC g E cX2_requireBid RX2 wsX2_requireBid 2 none := C0
  obtain ⟨hnf, hnd, hnb, hou, hrs, hbd⟩ := id ha
  refine z_iload_n C dX2_requireBid_0 1 rfl ?_
  refine z_if_lt C 12 dX2_requireBid_1 (by decide) (zlt_N0 (by omega)) (fun h9 => absurd h9 id) (fun c_1 => ?_)
  refine z_iload_n C dX2_requireBid_4 1 rfl ?_
  refine z_aload_n C dX2_requireBid_5 0 rfl ?_
  refine z_get C inX2_requireBid_X2 0 wB_o rfl 10 (by decide) (C.w 3 rfl) rfl dX2_requireBid_6 ?_
  refine z_icmp_lt C 22 dX2_requireBid_9 (by decide) (zlt_NN (by omega) (by omega)) (fun c_9 => ?_) (fun h9 => absurd (by omega) h9)
  exact z_vretP C dX2_requireBid_22 rfl
set_option maxRecDepth 100000 in
set_option maxHeartbeats 4000000 in
theorem c_X2_requireWhat  (l : Launch) (g : zG) (w : va_W) (x t : Nat) (hx : x ≤ t) (ht : t < 100) : zM g l yX2_requireWhat wsX2_requireWhat { frames := 0, cells := 0, slots := 0, locals := 0 } [.int (nI x), .int (nI t)] (w) (zPv (w)) 0 0 := by
  refine zM.of (cc := cX2_requireWhat) (nL := 2) (ret := none) (lv := [(0, .int (nI x)), (1, .int (nI t))]) (by decide) rfl (Nat.le_of_ble_eq_true rfl) rfl ?_
  intro E C0 hi
  have C : zC g E cX2_requireWhat RX2 wsX2_requireWhat 2 none := C0
  refine z_iload_n C dX2_requireWhat_0 0 rfl ?_
  refine z_if_lt C 9 dX2_requireWhat_1 (by decide) (zlt_N0 (by omega)) (fun h9 => absurd h9 id) (fun c_1 => ?_)
  refine z_iload_n C dX2_requireWhat_4 0 rfl ?_
  refine z_iload_n C dX2_requireWhat_5 1 rfl ?_
  refine z_icmp_le C 19 dX2_requireWhat_6 (by decide) (zle_NN (by omega) (by omega)) (fun c_6 => ?_) (fun h9 => absurd (by omega) h9)
  exact z_vretP C dX2_requireWhat_19 rfl
set_option maxRecDepth 100000 in
set_option maxHeartbeats 4000000 in
theorem c_X2_requireReserve  (l : Launch) (g : zG) (w : va_W) (x : Nat) (hx : x ≤ 99) : zM g l yX2_requireReserve wsX2_requireReserve { frames := 0, cells := 0, slots := 0, locals := 0 } [.int (nI x)] (w) (zPv (w)) 0 0 := by
  refine zM.of (cc := cX2_requireReserve) (nL := 1) (ret := none) (lv := [(0, .int (nI x))]) (by decide) rfl (Nat.le_of_ble_eq_true rfl) rfl ?_
  intro E C0 hi
  have C : zC g E cX2_requireReserve RX2 wsX2_requireReserve 1 none := C0
  refine z_iload_n C dX2_requireReserve_0 0 rfl ?_
  refine z_if_lt C 10 dX2_requireReserve_1 (by decide) (zlt_N0 (by omega)) (fun h9 => absurd h9 id) (fun c_1 => ?_)
  refine z_iload_n C dX2_requireReserve_4 0 rfl ?_
  refine z_bipush C (nI 99) dX2_requireReserve_5 (by decide) ?_
  refine z_icmp_le C 20 dX2_requireReserve_7 (by decide) (zle_NN (by omega) (by omega)) (fun c_7 => ?_) (fun h9 => absurd (by omega) h9)
  exact z_vretP C dX2_requireReserve_20 rfl
set_option maxRecDepth 100000 in
set_option maxHeartbeats 4000000 in
theorem c_X2_requireAmount  (l : Launch) (g : zG) (w : va_W) (x : Nat) (hx : x ≤ 999) : zM g l yX2_requireAmount wsX2_requireAmount { frames := 0, cells := 0, slots := 0, locals := 0 } [.int (nI x)] (w) (zPv (w)) 0 0 := by
  refine zM.of (cc := cX2_requireAmount) (nL := 1) (ret := none) (lv := [(0, .int (nI x))]) (by decide) rfl (Nat.le_of_ble_eq_true rfl) rfl ?_
  intro E C0 hi
  have C : zC g E cX2_requireAmount RX2 wsX2_requireAmount 1 none := C0
  refine z_iload_n C dX2_requireAmount_0 0 rfl ?_
  refine z_if_lt C 11 dX2_requireAmount_1 (by decide) (zlt_N0 (by omega)) (fun h9 => absurd h9 id) (fun c_1 => ?_)
  refine z_iload_n C dX2_requireAmount_4 0 rfl ?_
  refine z_sipush C (nI 999) dX2_requireAmount_5 (by decide) ?_
  refine z_icmp_le C 21 dX2_requireAmount_8 (by decide) (zle_NN (by omega) (by omega)) (fun c_8 => ?_) (fun h9 => absurd (by omega) h9)
  exact z_vretP C dX2_requireAmount_21 rfl
theorem inX2_requireBundle_X2 : ∀ w ∈ wsX20, w ∈ wsX2_requireBundle := fun w h => List.mem_cons_of_mem _ (List.mem_append_left _ (List.mem_append_right _ (h)))
set_option maxRecDepth 100000 in
set_option maxHeartbeats 4000000 in
theorem c_X2_requireBundle (l : Launch) (g : zG) (q : Nat → Nat) (a : zS) (bs : Nat → Int × Nat) (wb pd gw : Nat → Nat → Int) (ha : zOk a) (x : Nat) (h0 : 0 < x) (hx : x < 2 ^ zNf a) : zM g l yX2_requireBundle wsX2_requireBundle { frames := 0, cells := 0, slots := 0, locals := 0 } [.ref (q 0), .int (nI x)] (wB g q a (zG0 a) bs wb pd gw) (zPv (wB g q a (zG0 a) bs wb pd gw)) 0 0 := by
  refine zM.of (cc := cX2_requireBundle) (nL := 2) (ret := none) (lv := [(0, .ref (q 0)), (1, .int (nI x))]) (by decide) rfl (Nat.le_of_ble_eq_true rfl) rfl ?_
  intro E C0 hi
  have C : zC g E cX2_requireBundle RX2 wsX2_requireBundle 2 none := C0
  obtain ⟨hnf, hnd, hnb, hou, hrs, hbd⟩ := id ha
  have p8 : 2 ^ zNf a ≤ 2 ^ 8 := zp2_le hnf
  refine z_iload_n C dX2_requireBundle_0 1 rfl ?_
  refine z_if_le C 14 dX2_requireBundle_1 (by decide) (zle_N0 (by omega)) (fun h9 => absurd h9 (by omega)) (fun c_1 => ?_)
  refine z_iload_n C dX2_requireBundle_4 1 rfl ?_
  refine z_iconst C (nI 1) dX2_requireBundle_5 (by decide) ?_
  refine z_aload_n C dX2_requireBundle_6 0 rfl ?_
  refine z_get C inX2_requireBundle_X2 0 wB_o rfl 1 (by decide) (C.w 3 rfl) rfl dX2_requireBundle_7 ?_
  refine z_ishl C dX2_requireBundle_10 (v := nI (2 ^ (zNf a))) (zshl_1N (by omega)) ?_
  refine z_icmp_lt C 24 dX2_requireBundle_11 (by decide) (zlt_NN (by omega) (by omega)) (fun c_11 => ?_) (fun h9 => absurd hx h9)
  exact z_vretP C dX2_requireBundle_24 rfl
set_option maxRecDepth 100000 in
set_option maxHeartbeats 4000000 in
theorem c_J7_fill_53178  (l : Launch) (g : zG) (w : va_W) (k adr n : Nat) (f : Nat → Int) (x : Int) (hk : w[k]? = some (adr, .inl (zI g, n, .inl (fun j => iZ (f j))))) (hn : n < 100) : zM g l yJ7_fill_53178 wsJ7_fill_53178 { frames := 0, cells := 0, slots := 0, locals := 0 } [.ref adr, .int (iZ x)] (w) (zPv (w.set k (adr, .inl (zI g, n, .inl (fun j => iZ ((zFil f n x) j)))))) 0 0 := by
  refine zM.of (cc := cJ7_fill_53178) (nL := 4) (ret := none) (lv := [(0, .ref adr), (1, .int (iZ x))]) (by decide) rfl (Nat.le_of_ble_eq_true rfl) rfl ?_
  intro E C0 hi
  have C : zC g E cJ7_fill_53178 RJ7 wsJ7_fill_53178 4 none := C0
  refine z_iconst C (nI 0) dJ7_fill_53178_0 (by decide) ?_
  refine z_istore_n C dJ7_fill_53178_1 (by decide) [(2, .int (nI 0)), (0, .ref adr), (1, .int (iZ x))] rfl ?_
  refine z_aload_n C dJ7_fill_53178_2 1 rfl ?_
  refine z_alenI C k hk dJ7_fill_53178_3 ?_
  refine z_istore_n C dJ7_fill_53178_4 (by decide) [(3, .int (nI n)), (2, .int (nI 0)), (0, .ref adr), (1, .int (iZ x))] rfl ?_
  refine zW.eqw (ws2 := w.set k (adr, .inl (zI g, n, .inl (fun j => iZ ((zFil f 0 x) j))))) (by rw [zFil_0]; exact zset_self hk) ?_
  refine zW.pick (lv' := [(0, .ref adr), (1, .int (iZ x)), (2, .int (nI 0)), (3, .int (nI n))]) [2, 3, 1, 0] rfl ?_
  have hlp5 : ∀ (kk i : Nat), i + kk = n → zW g l ({ frames := 0, cells := 0, slots := 0, locals := 0 }) E (zMQ g E (zPv (w.set k (adr, .inl (zI g, n, .inl (fun j => iZ ((zFil f n x) j)))))) 0 0) 4 0 0 (w.set k (adr, .inl (zI g, n, .inl (fun j => iZ ((zFil f i x) j))))) [(0, .ref adr), (1, .int (iZ x)), (2, .int (nI i)), (3, .int (nI n))] [] 5 := by
    intro kk
    induction kk with
    | zero =>
      intro i hik
      refine z_iload_n C dJ7_fill_53178_5 2 rfl ?_
      refine z_iload_n C dJ7_fill_53178_6 3 rfl ?_
      refine z_icmp_ge C 20 dJ7_fill_53178_7 (by decide) (zle_NN (by omega) (by omega)) (fun c_7 => ?_) (fun h9 => absurd (by omega) h9)
      exact z_vretP C dJ7_fill_53178_20 (by rw [show i = n by omega])
    | succ kk ih5 =>
      intro i hik
      refine z_iload_n C dJ7_fill_53178_5 2 rfl ?_
      refine z_iload_n C dJ7_fill_53178_6 3 rfl ?_
      refine z_icmp_ge C 20 dJ7_fill_53178_7 (by decide) (zle_NN (by omega) (by omega)) (fun h9 => absurd h9 (by omega)) (fun c_7 => ?_)
      refine z_aload_n C dJ7_fill_53178_10 0 rfl ?_
      refine z_iload_n C dJ7_fill_53178_11 2 rfl ?_
      refine z_iload_n C dJ7_fill_53178_12 1 rfl ?_
      refine z_iastN C k (zset_get hk) (by omega) (by omega) dJ7_fill_53178_13 ((zset_put w k adr (zFil f i x) i x).trans (by rw [zFil_up])) ?_
      refine z_iinc C dJ7_fill_53178_14 2 (nI (i + 1)) rfl (nI_add i 1) (by decide) [(2, .int (nI (i + 1))), (0, .ref adr), (1, .int (iZ x)), (3, .int (nI n))] rfl ?_
      refine z_goto C 5 dJ7_fill_53178_17 (by decide) ?_
      refine zW.pick (lv' := [(0, .ref adr), (1, .int (iZ x)), (2, .int (nI (i + 1))), (3, .int (nI n))]) [1, 2, 0, 3] rfl ?_
      exact ih5 (i + 1) (by omega)
  exact hlp5 (n) 0 (by omega)
