theorem zapp_setk {α : Type} {a b b' : List α} {k : Nat} {e : α} (h : b.set k e = b') : (a ++ b).set (a.length + k) e = a ++ b' := by
  rw [List.set_append_right _ _ (Nat.le_add_right _ _), Nat.add_sub_cancel_left, h]
/-- the 31 low bits of an int -/
def zMa (x : Int32) : Nat := x.toBitVec.toNat % 2 ^ 31
def zBe (x : Int32) (n : Nat) : Nat := zMa x % n
theorem zBe_lt (x : Int32) {n : Nat} (h : 0 < n) : zBe x n < n := Nat.mod_lt _ h
theorem zMa_lt (x : Int32) : zMa x < 2147483648 := Nat.mod_lt _ (by decide)
theorem zMa_and (x : Int32) : x &&& (2147483647) = nI (zMa x) := by
  unfold nI
  apply Int32.toBitVec_inj.mp
  rw [Int32.toBitVec_and, Int32.toBitVec_ofNat']
  apply BitVec.eq_of_toNat_eq
  rw [BitVec.toNat_and, BitVec.toNat_ofNat]
  show x.toBitVec.toNat &&& (2 ^ 31 - 1) = _
  rw [Nat.and_two_pow_sub_one_eq_mod]
  have h := zMa_lt x
  unfold zMa at h ⊢
  rw [Nat.mod_eq_of_lt (b := 2 ^ 32) (by omega)]
def zCe (xs : Nat → Int32) (L k : Nat) : Int32 := if k < L then xs k else 790386105 * nI (k + 3)
/-- a row, and one more -/
def zWh (n : Nat) (f : Nat → Nat) (x : Nat) : Nat → Nat := fun j => if j < n then f j else if j = n then x else 0
theorem zWh_s (f : Nat → Nat) (i : Nat) : upd (fun j => nI (if j < i then f j else 0)) i (nI (f i)) = fun j => nI (if j < i + 1 then f j else 0) := by
  funext j
  show (if j = i then nI (f i) else nI (if j < i then f j else 0)) = _
  by_cases h : j = i
  · subst h; rw [if_pos rfl, if_pos (by omega)]
  · rw [if_neg h]
    by_cases h2 : j < i
    · rw [if_pos h2, if_pos (by omega)]
    · rw [if_neg h2, if_neg (by omega)]
theorem zWh_e (f : Nat → Nat) (n x : Nat) : upd (fun j => nI (if j < n then f j else 0)) n (nI x) = fun j => nI (zWh n f x j) := by
  funext j
  show (if j = n then nI x else nI (if j < n then f j else 0)) = nI (if j < n then f j else if j = n then x else 0)
  by_cases h : j = n
  · subst h; rw [if_pos rfl, if_neg (by omega), if_pos rfl]
  · rw [if_neg h]
    by_cases h2 : j < n
    · rw [if_pos h2, if_pos h2]
    · rw [if_neg h2, if_neg h2, if_neg h]
set_option maxRecDepth 100000 in
set_option maxHeartbeats 4000000 in
theorem c_L_below  (l : Launch) (g : zG) (w : va_W) (x : Int32) (n : Nat) (h0 : 0 < n) (hn : n < 2147483648) : zM g l yL_below wsL_below { frames := 0, cells := 0, slots := 0, locals := 0 } [.int x, .int (nI n)] (w) (zPi (nI (zBe x n)) (w)) 0 0 := by
  refine zM.of (cc := cL_below) (nL := 2) (ret := (some .int)) (lv := [(0, .int x), (1, .int (nI n))]) (by decide) rfl (Nat.le_of_ble_eq_true rfl) rfl ?_
  intro E C0 hi
  have C : zC g E cL_below RL wsL_below 2 (some .int) := C0
  have hm := zMa_lt x
  refine z_iload_n C dL_below_0 0 rfl ?_
  refine z_ldc C (2147483647) (C.w 1 rfl) dL_below_1 ?_
  refine z_iand C dL_below_3 (v := nI (zMa x)) (zMa_and x) ?_
  refine z_iload_n C dL_below_4 1 rfl ?_
  refine z_irem C dL_below_5 (fun h9 => absurd ((zeq_N0 hn).mp h9) (by omega)) (v := nI (zMa x % n)) (pk_rem (by omega) (by omega) (by omega)) ?_
  exact z_iretP C dL_below_6 rfl rfl
set_option maxRecDepth 100000 in
set_option maxHeartbeats 4000000 in
theorem c_L_cell  (l : Launch) (g : zG) (w : va_W) (b L : Nat) (xs : Nat → Int32) (hL : L ≤ 260) (k : Nat) (hk : k < 1000) : zMx g l b L xs yL_cell wsL_cell { frames := 0, cells := 0, slots := 0, locals := 0 } [.ref b, .int (nI k)] (w) (zPi ((zCe xs L k)) (w)) 0 0 := by
  refine zMx.of hL (cc := cL_cell) (nL := 2) (ret := (some .int)) (lv := [(0, .ref b), (1, .int (nI k))]) (by decide) rfl (Nat.le_of_ble_eq_true rfl) rfl ?_
  intro E C0 S
  have C : zC g E cL_cell RL wsL_cell 2 (some .int) := C0
  refine z_iload_n C dL_cell_0 1 rfl ?_
  refine z_aload_n C dL_cell_1 0 rfl ?_
  refine z_slen C S dL_cell_2 ?_
  refine z_icmp_ge C 12 dL_cell_3 (by decide) (zle_NN (by omega) (by omega)) (fun c_3 => ?_) (fun c_3 => ?_)
  · skip
    refine z_ldc C (790386105) (C.w 1 rfl) dL_cell_12 ?_
    refine z_iload_n C dL_cell_14 1 rfl ?_
    refine z_iconst C (nI 3) dL_cell_15 (by decide) ?_
    refine z_iadd C dL_cell_16 (v := nI (k + 3)) (nI_add k 3) ?_
    refine z_imul C dL_cell_17 (v := (790386105) * nI (k + 3)) rfl ?_
    exact z_iretP C dL_cell_18 (by unfold zCe; rw [if_neg (by omega)]) rfl
  · skip
    refine z_aload_n C dL_cell_6 0 rfl ?_
    refine z_iload_n C dL_cell_7 1 rfl ?_
    refine z_sld C S (by omega) dL_cell_8 ?_
    refine z_goto C 18 dL_cell_9 (by decide) ?_
    exact z_iretP C dL_cell_18 (by unfold zCe; rw [if_pos (by omega)]) rfl
set_option maxRecDepth 100000 in
set_option maxHeartbeats 4000000 in
theorem c_L_with  (l : Launch) (g : zG) (w : va_W) (k q1 n : Nat) (f : Nat → Nat) (x : Nat) (hk : w[k]? = some (q1, .inl (zI g, n, .inl (fun j => nI (f j))))) (hn : n ≤ 8) : zM g l yL_with wsL_with { frames := 0, cells := 1, slots := 9, locals := 0 } [.ref q1, .int (nI x)] (w) ((fun v w' => ∃ x4 : Nat, v = some (.ref x4) ∧ w' = w ++ [(x4, .inl (zI g, n + 1, .inl (fun j => nI (zWh n f x j))))])) 1 9 := by
  refine zM.of (cc := cL_with) (nL := 4) (ret := (some (.array .int))) (lv := [(0, .ref q1), (1, .int (nI x))]) (by decide) rfl (Nat.le_of_ble_eq_true rfl) rfl ?_
  intro E C0 hi
  have C : zC g E cL_with RL wsL_with 4 (some (.array .int)) := C0
  refine z_aload_n C dL_with_0 0 rfl ?_
  refine z_alenI C k hk dL_with_1 ?_
  refine z_iconst C (nI 1) dL_with_2 (by decide) ?_
  refine z_iadd C dL_with_3 (v := nI (n + 1)) (nI_add n 1) ?_
  refine z_newaI C (C.w 1 rfl) (n := n + 1) (by omega) (by dsimp only; omega) (by dsimp only; omega) dL_with_4 (fun x4 => ?_)
  refine zW.eqw (ws2 := w ++ [(x4, .inl (zI g, n + 1, .inl (fun j => nI (if j < 0 then f j else 0))))]) rfl ?_
  refine z_astore_n C dL_with_6 (by decide) [(2, .ref x4), (0, .ref q1), (1, .int (nI x))] rfl ?_
  refine z_iconst C (nI 0) dL_with_7 (by decide) ?_
  refine z_istore_n C dL_with_8 (by decide) [(3, .int (nI 0)), (2, .ref x4), (0, .ref q1), (1, .int (nI x))] rfl ?_
  refine zW.pick (lv' := [(0, .ref q1), (1, .int (nI x)), (2, .ref x4), (3, .int (nI 0))]) [2, 3, 1, 0] rfl ?_
  have hlp9 : ∀ (kk i : Nat), i + kk = n → zW g l ({ frames := 0, cells := 1, slots := 9, locals := 0 }) E (zMQ g E ((fun v w' => ∃ x4 : Nat, v = some (.ref x4) ∧ w' = w ++ [(x4, .inl (zI g, n + 1, .inl (fun j => nI (zWh n f x j))))])) 1 9) 4 (0 + 1) (0 + (n + 1)) (w ++ [(x4, .inl (zI g, n + 1, .inl (fun j => nI (if j < i then f j else 0))))]) [(0, .ref q1), (1, .int (nI x)), (2, .ref x4), (3, .int (nI i))] [] 9 := by
    intro kk
    induction kk with
    | zero =>
      intro i hik
      refine z_iload_n C dL_with_9 3 rfl ?_
      refine z_aload_n C dL_with_10 0 rfl ?_
      refine z_alenI C k (zapp_l hk) dL_with_11 ?_
      refine z_icmp_ge C 27 dL_with_12 (by decide) (zle_NN (by omega) (by omega)) (fun c_12 => ?_) (fun h9 => absurd (by omega) h9)
      rw [show i = n by omega]
      refine z_aload_n C dL_with_27 2 rfl ?_
      refine z_aload_n C dL_with_28 0 rfl ?_
      refine z_alenI C k (zapp_l hk) dL_with_29 ?_
      refine z_iload_n C dL_with_30 1 rfl ?_
      refine z_iastN C (w.length + 0) (zapp_r (k := 0) rfl) (by omega) (by omega) dL_with_31 (zapp_setk (k := 0) (by rw [zWh_e] <;> rfl)) ?_
      refine z_aload_n C dL_with_32 2 rfl ?_
      refine zW.wid (k := 1) (n := 9) (by omega) (by omega) ?_
      exact z_aret (Or.inr ⟨_, rfl⟩) C dL_with_33 ⟨x4, rfl, rfl⟩
    | succ kk ih9 =>
      intro i hik
      refine z_iload_n C dL_with_9 3 rfl ?_
      refine z_aload_n C dL_with_10 0 rfl ?_
      refine z_alenI C k (zapp_l hk) dL_with_11 ?_
      refine z_icmp_ge C 27 dL_with_12 (by decide) (zle_NN (by omega) (by omega)) (fun h9 => absurd h9 (by omega)) (fun c_12 => ?_)
      refine z_aload_n C dL_with_15 2 rfl ?_
      refine z_iload_n C dL_with_16 3 rfl ?_
      refine z_aload_n C dL_with_17 0 rfl ?_
      refine z_iload_n C dL_with_18 3 rfl ?_
      refine z_ialdN C k (zapp_l hk) (by omega) (by omega) dL_with_19 (v := nI (f i)) rfl ?_
      refine z_iastN C (w.length + 0) (zapp_r (k := 0) rfl) (by omega) (by omega) dL_with_20 (zapp_setk (k := 0) (by rw [zWh_s] <;> rfl)) ?_
      refine z_iinc C dL_with_21 3 (nI (i + 1)) rfl (nI_add i 1) (by decide) [(3, .int (nI (i + 1))), (0, .ref q1), (1, .int (nI x)), (2, .ref x4)] rfl ?_
      refine z_goto C 9 dL_with_24 (by decide) ?_
      refine zW.pick (lv' := [(0, .ref q1), (1, .int (nI x)), (2, .ref x4), (3, .int (nI (i + 1)))]) [1, 2, 3, 0] rfl ?_
      exact ih9 (i + 1) (by omega)
  exact hlp9 (n) 0 (by omega)
