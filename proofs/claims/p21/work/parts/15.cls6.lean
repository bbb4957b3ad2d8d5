/-- an answer and, of the world, a proposition -/
def zPie (x : Int32) (P : va_W → Prop) : Option Value → va_W → Prop := fun v w' => v = some (.int x) ∧ P w'
theorem z_ie {g : zG} {l : Launch} {R : Room} {E : zEnv} {Q : State → Prop} {nL cells slots : Nat} {lv : List (Nat × Value)} {rest : List Value} {pc : Nat} {x : Int32} {P : va_W → Prop} (kk : ∀ w', P w' → zW g l R E Q nL cells slots w' lv (.int x :: rest) pc) : ∀ v w', zPie x P v w' → zW g l R E Q nL (cells + 0) (slots + 0) w' lv (v.toList ++ rest) pc := by
  rintro _ w' ⟨rfl, h⟩; exact kk w' h
theorem z_iretE {g : zG} {l : Launch} {R : Room} {E : zEnv} {nL cells slots : Nat} {ws : va_W} {lv : List (Nat × Value)} {pc : Nat} {cc : ByteArray} {own : String} {Ts : List Cond} {P : va_W → Prop} (C : zC g E cc own Ts nL (some .int)) {v x : Int32} (d : decode cc pc = .ok (.ireturn, 1)) (hx : v = x) (hp : P ws) : zW g l R E (zMQ g E (zPie x P) cells slots) nL cells slots ws lv [.int v] pc := z_iret C d ⟨by rw [hx], hp⟩
theorem z_zretE {g : zG} {l : Launch} {R : Room} {E : zEnv} {nL cells slots : Nat} {ws : va_W} {lv : List (Nat × Value)} {pc : Nat} {cc : ByteArray} {own : String} {Ts : List Cond} {P : va_W → Prop} (C : zC g E cc own Ts nL (some .boolean)) {v : Int32} {b : Bool} (d : decode cc pc = .ok (.ireturn, 1)) (hx : v = bI b) (hp : P ws) : zW g l R E (zMQ g E (zPie (bI b) P) cells slots) nL cells slots ws lv [.int v] pc := by
  subst hx
  exact z_zret C (zbI_nar b) d ⟨rfl, hp⟩
/-- the class's world, its sale settled -/
def zFace (g : zG) (q : Nat → Nat) (a : zS) : va_W → Prop := fun w' => ∃ (bs : Nat → Int × Nat) (wb pd gw : Nat → Nat → Int), w' = wB g q a (zG0 a) bs wb pd gw ∧ zSet a bs wb pd gw 0 0
/-- what holds of every state between two calls -/
def zInv (a : zS) : Prop := zOk a ∧ ∀ b, zNb a ≤ b → zGo a b = 0
theorem zDfs_cong {a a' : zS} {n : Nat} (h : ∀ b, b < n → zBu a b = zBu a' b ∧ zOw a b = zOw a' b ∧ zCn a (zOu a) b = zCn a' (zOu a') b ∧ zGn a b = zGn a' b) : ∀ (k : Nat) (x : Int × Nat) (i tf tb : Nat) (gi : Int) (m : Nat), i + k ≤ n → zDfs a k x i tf tb gi m = zDfs a' k x i tf tb gi m := by
  intro k
  induction k with
  | zero => intros; rfl
  | succ k ih =>
    intro x i tf tb gi m hk
    obtain ⟨h1, h2, h3, h4⟩ := h i (by omega)
    rw [zDfs_s, zDfs_s]
    have e1 : zSw a k x i tf tb gi m = zSw a' k x i tf tb gi m := by
      unfold zSw zFitb
      rw [h1, h2, h3, h4]
      split
      · exact ih _ _ _ _ _ _ (by omega)
      · rfl
    rw [e1]
    exact ih _ _ _ _ _ _ (by omega)
theorem zSum_cong {f f' : Nat → Nat} : ∀ n, (∀ i, i < n → f i = f' i) → zSum f n = zSum f' n
  | 0, _ => rfl
  | n + 1, h => by
    unfold zSum
    rw [zSum_cong n (fun i hi => h i (by omega)), h n (by omega)]
theorem zSi_cong {f f' : Nat → Int} : ∀ n, (∀ i, i < n → f i = f' i) → zSi f n = zSi f' n
  | 0, _ => rfl
  | n + 1, h => by
    unfold zSi
    rw [zSi_cong n (fun i hi => h i (by omega)), h n (by omega)]
-- a field comes
theorem zRes_new (a : zS) (x m : Nat) (hm : m < 2 ^ zNf a) : zRes (zSetNf (zSetRs a (zNf a) x) (zNf a + 1)) m = zRes a m := by
  show zSum (fun f => if m.testBit f = true then va_up (zRs a) (zNf a) x f else 0) (zNf a + 1) = _
  unfold zSum
  rw [if_neg (by rw [Nat.testBit_lt_two_pow hm]; simp), Nat.add_zero]
  refine zSum_cong _ (fun i hi => ?_)
  rw [va_up_ne _ _ (by omega)]
theorem zGn_new {a : zS} (ha : zOk a) (x : Nat) {b : Nat} (hb : b < zNb a) : zGn (zSetNf (zSetRs a (zNf a) x) (zNf a + 1)) b = zGn a b := by
  show (zPr a b : Int) - (zRes _ (zBu a b) : Int) = _
  rw [zRes_new a x _ (ha.bu hb)]
  rfl
theorem zFw_new {a : zS} (ha : zOk a) (x ab : Nat) : zFw (zSetNf (zSetRs a (zNf a) x) (zNf a + 1)) ab = zFw a ab := by
  refine zDfs_cong (a := zSetNf (zSetRs a (zNf a) x) (zNf a + 1)) (a' := a) (n := zNb a) (fun b hb => ⟨rfl, rfl, ?_, zGn_new ha x hb⟩) _ _ _ _ _ _ _ (by show 0 + zNb a ≤ _; omega)
  unfold zCn
  rw [zGn_new ha x hb]
  rfl
theorem zG0_new {a : zS} (ha : zOk a) (x : Nat) : zG0 (zSetNf (zSetRs a (zNf a) x) (zNf a + 1)) = zG0 a := by
  funext k
  unfold zG0
  show (if k < zNb a then _ else _) = _
  split
  · next h => exact zGn_new ha x h
  · rfl
theorem zLw_cong {a a' : zS} {m e : Nat} : ∀ n, (∀ b, b < n → zOw a b = zOw a' b) → zLw a m n e = zLw a' m n e
  | 0, _ => rfl
  | n + 1, h => by
    unfold zLw
    rw [zLw_cong n (fun b hb => h b (by omega)), h n (by omega)]
theorem zGw_new {a : zS} (ha : zOk a) (x ab d : Nat) : zGw (zSetNf (zSetRs a (zNf a) x) (zNf a + 1)) ab d = zGw a ab d := by
  unfold zGw
  rw [zFw_new ha]
  rfl
theorem zLp_new {a : zS} (ha : zOk a) (x ab e : Nat) : ∀ n, n ≤ zNb a → zLp (zSetNf (zSetRs a (zNf a) x) (zNf a + 1)) ab n e = zLp a ab n e
  | 0, _ => rfl
  | n + 1, h => by
    unfold zLp
    rw [zLp_new ha x ab e n (by omega), zFw_new ha, zGw_new ha, zGn_new ha x (by omega)]
    show (if _ ∧ zOw a n = e then (zRes _ (zBu a n) : Int) + _ - _ else _) = _
    rw [zRes_new a x _ (ha.bu (by omega))]
    rfl
theorem zSet_new {a : zS} (ha : zOk a) (x : Nat) {bs : Nat → Int × Nat} {wb pd gw : Nat → Nat → Int} {z ab : Nat} (h : zSet a bs wb pd gw z ab) : zSet (zSetNf (zSetRs a (zNf a) x) (zNf a + 1)) bs wb pd gw z ab := by
  refine ⟨by rw [zFw_new ha]; exact h.1, fun d hd => ?_⟩
  obtain ⟨h1, h2, h3⟩ := h.2 d hd
  rw [zFw_new ha, zGw_new ha]
  refine ⟨?_, ?_, h3⟩
  · rw [h1]; exact (zLw_cong (a := zSetNf (zSetRs a (zNf a) x) (zNf a + 1)) (a' := a) _ (fun _ _ => rfl)).symm
  · rw [h2]; exact (zLp_new ha x ab d _ (Nat.le_refl _)).symm
theorem zInv_new {a : zS} (h : zInv a) {x : Nat} (hx : x ≤ 99) (hf : zNf a < 8) : zInv (zSetNf (zSetRs a (zNf a) x) (zNf a + 1)) := by
  obtain ⟨⟨h1, h2, h3, h4, h5, h6⟩, h7⟩ := h
  refine ⟨⟨by show zNf a + 1 ≤ 8; omega, h2, h3, h4, fun f hf9 => ?_, fun b hb => ?_⟩, h7⟩
  · have hf9 : f < zNf a + 1 := hf9
    show va_up (zRs a) (zNf a) x f ≤ 99
    by_cases e : f = zNf a
    · rw [e, va_up_self]; exact hx
    · rw [va_up_ne _ _ e]; exact h5 f (by omega)
  · obtain ⟨g1, g2, g3, g4⟩ := h6 b hb
    exact ⟨g1, g2, by show zBu a b < 2 ^ (zNf a + 1); rw [Nat.pow_succ]; omega, g4⟩
theorem zInv_setRs {a : zS} (h : zInv a) {f x : Nat} (hx : x ≤ 99) : zInv (zSetRs a f x) := by
  obtain ⟨⟨h1, h2, h3, h4, h5, h6⟩, h7⟩ := h
  refine ⟨⟨h1, h2, h3, h4, fun i hi => ?_, h6⟩, h7⟩
  show va_up (zRs a) f x i ≤ 99
  by_cases e : i = f
  · rw [e, va_up_self]; exact hx
  · rw [va_up_ne _ _ e]; exact h5 i hi
theorem zInv_setPr {a : zS} (h : zInv a) {b x : Nat} (hx : x ≤ 999) : zInv (zSetPr a b x) := by
  obtain ⟨⟨h1, h2, h3, h4, h5, h6⟩, h7⟩ := h
  refine ⟨⟨h1, h2, h3, h4, h5, fun i hi => ?_⟩, h7⟩
  obtain ⟨g1, g2, g3, g4, g5, g6⟩ := h6 i hi
  refine ⟨g1, g2, g3, ?_, g5, g6⟩
  show va_up (zPr a) b x i ≤ 999
  by_cases e : i = b
  · rw [e, va_up_self]; exact hx
  · rw [va_up_ne _ _ e]; exact g4
theorem zInv_setWo {a : zS} (h : zInv a) {b x : Nat} (hx : x ≤ 999) : zInv (zSetWo a b x) := by
  obtain ⟨⟨h1, h2, h3, h4, h5, h6⟩, h7⟩ := h
  refine ⟨⟨h1, h2, h3, h4, h5, fun i hi => ?_⟩, h7⟩
  obtain ⟨g1, g2, g3, g4, g5, g6⟩ := h6 i hi
  refine ⟨g1, g2, g3, g4, ?_, g6⟩
  show va_up (zWo a) b x i ≤ 999
  by_cases e : i = b
  · rw [e, va_up_self]; exact hx
  · rw [va_up_ne _ _ e]; exact g5
theorem zInv_setGo {a : zS} (h : zInv a) {b : Nat} (hb : b < zNb a) : zInv (zSetGo a b 1) := by
  obtain ⟨⟨h1, h2, h3, h4, h5, h6⟩, h7⟩ := h
  refine ⟨⟨h1, h2, h3, h4, h5, fun i hi => ?_⟩, fun i hi => ?_⟩
  · obtain ⟨g1, g2, g3, g4, g5, g6⟩ := h6 i hi
    refine ⟨g1, g2, g3, g4, g5, ?_⟩
    show va_up (zGo a) b 1 i ≤ 1
    by_cases e : i = b
    · rw [e, va_up_self]; exact Nat.le_refl 1
    · rw [va_up_ne _ _ e]; exact g6
  · have hi : zNb a ≤ i := hi
    show va_up (zGo a) b 1 i = 0
    rw [va_up_ne _ _ (by omega)]
    exact h7 i hi
theorem zInv_join {a : zS} (h : zInv a) (hd : zNd a < 5) : zInv (zSetNd a (zNd a + 1)) := by
  obtain ⟨⟨h1, h2, h3, h4, h5, h6⟩, h7⟩ := h
  refine ⟨⟨h1, by show zNd a + 1 ≤ 5; omega, h3, by show zOu a < 2 ^ (zNd a + 1); rw [Nat.pow_succ]; omega, h5, fun i hi => ?_⟩, h7⟩
  obtain ⟨g1, g2⟩ := h6 i hi
  exact ⟨by show zOw a i < zNd a + 1; omega, g2⟩
/-- the set of those who are out, behind setIn -/
def zOuIn (o d : Nat) (v : Bool) : Nat := if v = true then (if o.testBit d = true then o - 2 ^ d else o) else o ||| 2 ^ d
theorem zOuIn_all : ∀ n, n < 6 → ∀ o, o < 2 ^ n → ∀ d, d < n → ∀ v : Bool, zOuIn o d v < 2 ^ n ∧ ∀ k, k < n → (zOuIn o d v).testBit k = (if k = d then !v else o.testBit k) := by decide +kernel
theorem zInv_setOu {a : zS} (h : zInv a) {d : Nat} (hd : d < zNd a) (v : Bool) : zInv (zSetOu a (zOuIn (zOu a) d v)) := by
  obtain ⟨⟨h1, h2, h3, h4, h5, h6⟩, h7⟩ := h
  exact ⟨⟨h1, h2, h3, (zOuIn_all _ (by omega) _ h4 d hd v).1, h5, h6⟩, h7⟩
theorem zup_B (f : Nat → Bool) (k : Nat) (x : Bool) : upd (fun j => bI (f j)) k (bI x) = fun j => bI (va_up f k x j) := by
  funext j
  simp only [upd, va_up]
  split <;> rfl
theorem zIn_setOu {a : zS} (ha : zOk a) {d : Nat} (hd : d < zNd a) (v : Bool) : va_up (zIn a) d v = zIn (zSetOu a (zOuIn (zOu a) d v)) := by
  funext k
  have h9 := (zOuIn_all _ (by have := ha.2.1; omega) _ ha.2.2.2.1 d hd v).2
  show _ = (decide (k < zNd a) && !((zOuIn (zOu a) d v).testBit k))
  by_cases hk : k < zNd a
  · rw [h9 k hk]
    by_cases e : k = d
    · subst e; rw [va_up_self, if_pos rfl]; simp [hk]
    · rw [va_up_ne _ _ e, if_neg e]; rfl
  · rw [va_up_ne _ _ (by omega)]
    unfold zIn
    simp [hk]
theorem zIn_join {a : zS} (ha : zOk a) : va_up (zIn a) (zNd a) true = zIn (zSetNd a (zNd a + 1)) := by
  funext k
  show _ = (decide (k < zNd a + 1) && !((zOu a).testBit k))
  by_cases e : k = zNd a
  · subst e
    rw [va_up_self, Nat.testBit_lt_two_pow ha.2.2.2.1]
    simp
  · rw [va_up_ne _ _ e]
    unfold zIn
    congr 1
    simp only [decide_eq_decide]
    omega
/-- a bid comes -/
def zBid (a : zS) (d m x : Nat) : zS := zSetNb (zSetPr (zSetWo (zSetBu (zSetOw a (zNb a) d) (zNb a) m) (zNb a) x) (zNb a) x) (zNb a + 1)
theorem zOk_at {a : zS} (h : zOk a) (o b p w : Nat) : zOk (zSetPr (zSetWo (zSetBu (zSetOw a (zNb a) o) (zNb a) b) (zNb a) w) (zNb a) p) ∧ zOk (zSetWo (zSetBu (zSetOw a (zNb a) o) (zNb a) b) (zNb a) w) := by
  obtain ⟨h1, h2, h3, h4, h5, h6⟩ := h
  refine ⟨⟨h1, h2, h3, h4, h5, fun i hi => ?_⟩, ⟨h1, h2, h3, h4, h5, fun i hi => ?_⟩⟩
  · have hi : i < zNb a := hi
    obtain ⟨g1, g2, g3, g4, g5, g6⟩ := h6 i hi
    refine ⟨?_, ?_, ?_, ?_, ?_, g6⟩
    · show va_up (zOw a) (zNb a) o i < _; rw [va_up_ne _ _ (by omega)]; exact g1
    · show 0 < va_up (zBu a) (zNb a) b i; rw [va_up_ne _ _ (by omega)]; exact g2
    · show va_up (zBu a) (zNb a) b i < _; rw [va_up_ne _ _ (by omega)]; exact g3
    · show va_up (zPr a) (zNb a) p i ≤ _; rw [va_up_ne _ _ (by omega)]; exact g4
    · show va_up (zWo a) (zNb a) w i ≤ _; rw [va_up_ne _ _ (by omega)]; exact g5
  · have hi : i < zNb a := hi
    obtain ⟨g1, g2, g3, g4, g5, g6⟩ := h6 i hi
    refine ⟨?_, ?_, ?_, g4, ?_, g6⟩
    · show va_up (zOw a) (zNb a) o i < _; rw [va_up_ne _ _ (by omega)]; exact g1
    · show 0 < va_up (zBu a) (zNb a) b i; rw [va_up_ne _ _ (by omega)]; exact g2
    · show va_up (zBu a) (zNb a) b i < _; rw [va_up_ne _ _ (by omega)]; exact g3
    · show va_up (zWo a) (zNb a) w i ≤ _; rw [va_up_ne _ _ (by omega)]; exact g5
theorem zInv_bid {a : zS} (h : zInv a) {d m x : Nat} (hd : d < zNd a) (hm0 : 0 < m) (hm : m < 2 ^ zNf a) (hx : x ≤ 999) (hb : zNb a < 12) : zInv (zBid a d m x) := by
  obtain ⟨⟨h1, h2, h3, h4, h5, h6⟩, h7⟩ := h
  refine ⟨⟨h1, h2, by show zNb a + 1 ≤ 12; omega, h4, h5, fun i hi => ?_⟩, fun i hi => h7 i (by have : zNb a + 1 ≤ i := hi; omega)⟩
  have hi : i < zNb a + 1 := hi
  by_cases e : i = zNb a
  · subst e
    refine ⟨?_, ?_, ?_, ?_, ?_, ?_⟩
    · show va_up (zOw a) (zNb a) d (zNb a) < _; rw [va_up_self]; exact hd
    · show 0 < va_up (zBu a) (zNb a) m (zNb a); rw [va_up_self]; exact hm0
    · show va_up (zBu a) (zNb a) m (zNb a) < _; rw [va_up_self]; exact hm
    · show va_up (zPr a) (zNb a) x (zNb a) ≤ _; rw [va_up_self]; exact hx
    · show va_up (zWo a) (zNb a) x (zNb a) ≤ _; rw [va_up_self]; exact hx
    · show zGo a (zNb a) ≤ 1; rw [h7 _ (Nat.le_refl _)]; exact Nat.zero_le _
  · obtain ⟨g1, g2, g3, g4, g5, g6⟩ := h6 i (by omega)
    refine ⟨?_, ?_, ?_, ?_, ?_, g6⟩
    · show va_up (zOw a) (zNb a) d i < _; rw [va_up_ne _ _ e]; exact g1
    · show 0 < va_up (zBu a) (zNb a) m i; rw [va_up_ne _ _ e]; exact g2
    · show va_up (zBu a) (zNb a) m i < _; rw [va_up_ne _ _ e]; exact g3
    · show va_up (zPr a) (zNb a) x i ≤ _; rw [va_up_ne _ _ e]; exact g4
    · show va_up (zWo a) (zNb a) x i ≤ _; rw [va_up_ne _ _ e]; exact g5
theorem zG0_bid (a : zS) (d m x : Nat) : va_up (zG0 a) (zNb a) ((x : Int) - (zRes a m : Int)) = zG0 (zBid a d m x) := by
  funext k
  unfold zG0
  show _ = if k < zNb a + 1 then ((va_up (zPr a) (zNb a) x k : Nat) : Int) - (zRes a (va_up (zBu a) (zNb a) m k) : Int) else 0
  by_cases e : k = zNb a
  · subst e
    rw [va_up_self, va_up_self, va_up_self, if_pos (by omega)]
  · rw [va_up_ne _ _ e, va_up_ne _ _ e, va_up_ne _ _ e]
    by_cases h : k < zNb a
    · rw [if_pos h, if_pos (by omega)]; rfl
    · rw [if_neg h, if_neg (by omega)]
section WBJ
variable {g : zG} {q : Nat → Nat} {a : zS} {G : Nat → Int} {bs : Nat → Int × Nat} {wb pd gw : Nat → Nat → Int}
theorem wB_setIn (ha : zOk a) {d : Nat} (hd : d < zNd a) (v : Bool) : (wB g q a G bs wb pd gw).set 2 (q 2, .inl (zZ g, 5, .inl (upd (fun k => bI (zIn a k)) d (bI v)))) = wB g q (zSetOu a (zOuIn (zOu a) d v)) G bs wb pd gw := by
  rw [zup_B, zIn_setOu ha hd]; rfl
theorem wB_join1 : (wB g q a G bs wb pd gw).set 2 (q 2, .inl (zZ g, 5, .inl (upd (fun k => bI (zIn a k)) (zNd a) (bI true)))) = (wB g q a G bs wb pd gw).set 2 (q 2, .inl (zZ g, 5, .inl (fun k => bI (va_up (zIn a) (zNd a) true k)))) := by
  rw [zup_B]
theorem wB_join2 (ha : zOk a) : ((wB g q a G bs wb pd gw).set 2 (q 2, .inl (zZ g, 5, .inl (fun k => bI (va_up (zIn a) (zNd a) true k))))).set 0 (q 0, .inr (2, [Value.ref (q 1), .int (nI (zNf a)), .ref (q 2), .int (nI (zNd a)), .ref (q 3), .ref (q 4), .ref (q 5), .ref (q 6), .ref (q 7), .ref (q 8), .int (nI (zNb a)), .ref (q 12), .ref (q 13), .ref (q 11)].set 3 (.int (nI (zNd a + 1))))) = wB g q (zSetNd a (zNd a + 1)) G bs wb pd gw := by
  rw [zIn_join ha]; rfl
end WBJ
theorem inX2_field_X2 : ∀ w ∈ wsX20, w ∈ wsX2_field := fun w h => List.mem_cons_of_mem _ (List.mem_append_left _ (List.mem_append_left _ (List.mem_append_right _ (h))))
set_option maxRecDepth 100000 in
set_option maxHeartbeats 4000000 in
theorem c_X2_field (l : Launch) (g : zG) (q : Nat → Nat) (a : zS) (bs : Nat → Int × Nat) (wb pd gw : Nat → Nat → Int) (ha : zInv a) (hs : zSet a bs wb pd gw 0 0) (x : Nat) (hx : x ≤ 99) (hf : zNf a < 8) : zM g l yX2_field wsX2_field { frames := 1, cells := 0, slots := 0, locals := 20 } [.ref (q 0), .int (nI x)] (wB g q a (zG0 a) bs wb pd gw) (zPie (nI (zNf a)) (zFace g q (zSetNf (zSetRs a (zNf a) x) (zNf a + 1)))) 0 0 := by
  refine zM.of (cc := cX2_field) (nL := 3) (ret := (some .int)) (lv := [(0, .ref (q 0)), (1, .int (nI x))]) (by decide) rfl (Nat.le_of_ble_eq_true rfl) rfl ?_
  intro E C0 hi
  have C : zC g E cX2_field RX2 wsX2_field 3 (some .int) := C0
  have hi9 := ha
  have ha := hi9.1
  obtain ⟨hnf, hnd, hnb, hou, hrs, hbd⟩ := id ha
  refine z_iload_n C dX2_field_0 1 rfl ?_
  refine z_callS C (c_X2_requireReserve l g (wB g q a (zG0 a) bs wb pd gw) x (by omega)) (va_cwS 1 C.ts gX2_field_X2_requireReserve rfl rfl rfl (by decide +kernel) ⟨Nat.le_of_ble_eq_true rfl, Nat.le_of_ble_eq_true rfl⟩) rfl rfl (Nat.le_of_ble_eq_true rfl) dX2_field_1 ⟨Nat.zero_le _, Nat.zero_le _⟩ (z_v ?_)
  refine z_aload_n C dX2_field_4 0 rfl ?_
  refine z_get C inX2_field_X2 0 wB_o rfl 1 (by decide) (C.w 3 rfl) rfl dX2_field_5 ?_
  refine z_bipush C (nI 8) dX2_field_8 (by decide) ?_
  refine z_icmp_lt C 23 dX2_field_10 (by decide) (zlt_NN (by omega) (by omega)) (fun c_10 => ?_) (fun h9 => absurd (by omega) h9)
  refine z_aload_n C dX2_field_23 0 rfl ?_
  refine z_get C inX2_field_X2 0 wB_o rfl 1 (by decide) (C.w 3 rfl) rfl dX2_field_24 ?_
  refine z_istore_n C dX2_field_27 (by decide) [(2, .int (nI (zNf a))), (0, .ref (q 0)), (1, .int (nI x))] rfl ?_
  refine z_aload_n C dX2_field_28 1 rfl ?_
  refine z_get C inX2_field_X2 0 wB_o rfl 0 (by decide) (C.w 4 rfl) rfl dX2_field_29 ?_
  refine z_iload_n C dX2_field_32 0 rfl ?_
  refine z_iload_n C dX2_field_33 2 rfl ?_
  refine z_iastN C 1 wB_rs (by omega) (by decide) dX2_field_34 (wB_set_rs (zNf a) x) ?_
  refine z_aload_n C dX2_field_35 1 rfl ?_
  refine z_dup C dX2_field_36 rfl ?_
  refine z_get C inX2_field_X2 0 wB_o rfl 1 (by decide) (C.w 3 rfl) rfl dX2_field_37 ?_
  refine z_iconst C (nI 1) dX2_field_40 (by decide) ?_
  refine z_iadd C dX2_field_41 (v := nI ((zNf (zSetRs a (zNf a) x)) + 1)) (nI_add (zNf (zSetRs a (zNf a) x)) 1) ?_
  refine z_put C inX2_field_X2 tyX2_ok nmX2 0 wB_o rfl 1 (by decide) (C.w 3 rfl) rfl (tyX2_ok 1 (by decide)) rfl rfl (Nat.le_of_ble_eq_true rfl) dX2_field_42 (wB_set_nf _) ?_
  refine z_iload_n C dX2_field_45 0 rfl ?_
  exact z_iretE C dX2_field_46 rfl ⟨bs, wb, pd, gw, by rw [zG0_new ha]; rfl, zSet_new ha x hs⟩
theorem zGi_up (a : zS) (f x i : Nat) : va_up (fun k => if k < i then zGn (zSetRs a f x) k else zG0 a k) i ((zPr (zSetRs a f x) i : Int) - (zRes (zSetRs a f x) (zBu (zSetRs a f x) i) : Int)) = (fun k => if k < (i + 1) then zGn (zSetRs a f x) k else zG0 a k) := by
  funext k
  by_cases e : k = i
  · subst e
    rw [va_up_self]
    simp [zGn]
  · rw [va_up_ne _ _ e]
    show (if k < i then _ else _) = if k < i + 1 then _ else _
    by_cases h : k < i
    · rw [if_pos h, if_pos (by omega)]
    · rw [if_neg h, if_neg (by omega)]
theorem zGi_end (a : zS) (f x : Nat) : (fun k => if k < zNb a then zGn (zSetRs a f x) k else zG0 a k) = zG0 (zSetRs a f x) := by
  funext k
  show (if k < zNb a then _ else _) = if k < zNb a then _ else _
  by_cases h : k < zNb a
  · rw [if_pos h, if_pos h]
  · rw [if_neg h, if_neg h]
    unfold zG0
    rw [if_neg h]
theorem zSetPr_id (a : zS) (b : Nat) : zSetPr a b (zPr a b) = a := by
  unfold zSetPr
  rw [zup_id]
  rfl
theorem inX2_setReserve_X2 : ∀ w ∈ wsX20, w ∈ wsX2_setReserve := fun w h => List.mem_cons_of_mem _ (List.mem_append_left _ (List.mem_append_left _ (List.mem_append_left _ (List.mem_append_left _ (List.mem_append_right _ (h))))))
set_option maxRecDepth 100000 in
set_option maxHeartbeats 4000000 in
theorem c_X2_setReserve (l : Launch) (g : zG) (q : Nat → Nat) (a : zS) (bs : Nat → Int × Nat) (wb pd gw : Nat → Nat → Int) (ha : zInv a) (hs : zSet a bs wb pd gw 0 0) (f x : Nat) (hf : f < zNf a) (hx : x ≤ 99) : zM g l yX2_setReserve wsX2_setReserve { frames := 30, cells := 0, slots := 0, locals := 798 } [.ref (q 0), .int (nI f), .int (nI x)] (wB g q a (zG0 a) bs wb pd gw) (zPie (nI (zRs a f)) (zFace g q (zSetRs a f x))) 0 0 := by
  refine zM.of (cc := cX2_setReserve) (nL := 5) (ret := (some .int)) (lv := [(0, .ref (q 0)), (1, .int (nI f)), (2, .int (nI x))]) (by decide) rfl (Nat.le_of_ble_eq_true rfl) rfl ?_
  intro E C0 hi
  have C : zC g E cX2_setReserve RX2 wsX2_setReserve 5 (some .int) := C0
  have hi9 := ha
  have ha := hi9.1
  obtain ⟨hnf, hnd, hnb, hou, hrs, hbd⟩ := id ha
  have h1 := zInv_setRs (f := f) hi9 hx
  have hnb1 : zNb (zSetRs a f x) = zNb a := rfl
  refine z_aload_n C dX2_setReserve_0 0 rfl ?_
  refine z_iload_n C dX2_setReserve_1 1 rfl ?_
  refine z_callV C (c_X2_requireField l g q a bs wb pd gw ha f (by omega)) (cwV 1 C.ts gX2_setReserve_X2_requireField rfl rfl rfl (by decide +kernel) ⟨Nat.le_of_ble_eq_true rfl, Nat.le_of_ble_eq_true rfl⟩) wB_o rfl rfl rfl (Nat.le_of_ble_eq_true rfl) dX2_setReserve_2 ⟨Nat.zero_le _, Nat.zero_le _⟩ (z_v ?_)
  refine z_iload_n C dX2_setReserve_5 2 rfl ?_
  refine z_callS C (c_X2_requireReserve l g (wB g q a (zG0 a) bs wb pd gw) x (by omega)) (va_cwS 1 C.ts gX2_setReserve_X2_requireReserve rfl rfl rfl (by decide +kernel) ⟨Nat.le_of_ble_eq_true rfl, Nat.le_of_ble_eq_true rfl⟩) rfl rfl (Nat.le_of_ble_eq_true rfl) dX2_setReserve_6 ⟨Nat.zero_le _, Nat.zero_le _⟩ (z_v ?_)
  refine z_aload_n C dX2_setReserve_9 0 rfl ?_
  refine z_get C inX2_setReserve_X2 0 wB_o rfl 0 (by decide) (C.w 1 rfl) rfl dX2_setReserve_10 ?_
  refine z_iload_n C dX2_setReserve_13 1 rfl ?_
  refine z_ialdN C 1 wB_rs (by omega) (by decide) dX2_setReserve_14 (v := nI (zRs a f)) rfl ?_
  have f_14b := (ha.rs (f := f) (by omega))
  refine z_istore_n C dX2_setReserve_15 (by decide) [(3, .int (nI (zRs a f))), (0, .ref (q 0)), (1, .int (nI f)), (2, .int (nI x))] rfl ?_
  refine z_aload_n C dX2_setReserve_16 1 rfl ?_
  refine z_get C inX2_setReserve_X2 0 wB_o rfl 0 (by decide) (C.w 1 rfl) rfl dX2_setReserve_17 ?_
  refine z_iload_n C dX2_setReserve_20 2 rfl ?_
  refine z_iload_n C dX2_setReserve_21 3 rfl ?_
  refine z_iastN C 1 wB_rs (by omega) (by decide) dX2_setReserve_22 (wB_set_rs f x) ?_
  refine z_iconst C (nI 0) dX2_setReserve_23 (by decide) ?_
  refine z_istore C dX2_setReserve_24 (by decide) [(4, .int (nI 0)), (3, .int (nI (zRs a f))), (0, .ref (q 0)), (1, .int (nI f)), (2, .int (nI x))] rfl ?_
  rw [show zG0 a = (fun k => if k < 0 then zGn (zSetRs a f x) k else zG0 a k) from by funext k; simp]
  refine zW.pick (lv' := [(0, .ref (q 0)), (1, .int (nI f)), (2, .int (nI x)), (3, .int (nI (zRs a f))), (4, .int (nI 0))]) [2, 3, 4, 1, 0] rfl ?_
  have hlp26 : ∀ (k i : Nat), i + k = zNb a → zW g l ({ frames := 30, cells := 0, slots := 0, locals := 798 }) E (zMQ g E (zPie (nI (zRs a f)) (zFace g q (zSetRs a f x))) 0 0) 5 0 0 (wB g q (zSetRs a f x) (fun k => if k < i then zGn (zSetRs a f x) k else zG0 a k) bs wb pd gw) [(0, .ref (q 0)), (1, .int (nI f)), (2, .int (nI x)), (3, .int (nI (zRs a f))), (4, .int (nI i))] [] 26 := by
    intro k
    induction k with
    | zero =>
      intro i hik
      refine z_iload C dX2_setReserve_26 4 rfl ?_
      refine z_aload_n C dX2_setReserve_28 0 rfl ?_
      refine z_get C inX2_setReserve_X2 0 wB_o rfl 10 (by decide) (C.w 2 rfl) rfl dX2_setReserve_29 ?_
      refine z_icmp_ge C 54 dX2_setReserve_32 (by decide) (zle_NN (by omega) (by omega)) (fun c_32 => ?_) (fun h9 => absurd (by omega) h9)
      rw [show i = zNb a by omega, zGi_end]
      refine z_aload_n C dX2_setReserve_54 0 rfl ?_
      refine z_aload_n C dX2_setReserve_55 0 rfl ?_
      refine z_get C inX2_setReserve_X2 0 wB_o rfl 11 (by decide) (C.w 4 rfl) rfl dX2_setReserve_56 ?_
      refine z_iconst C (nI 0) dX2_setReserve_59 (by decide) ?_
      refine z_callV C (c_X2_settle l g q (zSetRs a f x) bs wb pd gw 0 h1.1 (by decide) 0) (cwV 2 C.ts gX2_setReserve_X2_settle rfl rfl rfl (by decide +kernel) ⟨Nat.le_of_ble_eq_true rfl, Nat.le_of_ble_eq_true rfl⟩) wB_o rfl rfl rfl (Nat.le_of_ble_eq_true rfl) dX2_setReserve_60 ⟨Nat.zero_le _, Nat.zero_le _⟩ (z_e ?_)
      rintro _ ⟨bs2, wb2, pd2, gw2, rfl, hs2, hk2⟩
      refine z_iload_n C dX2_setReserve_63 3 rfl ?_
      exact z_iretE C dX2_setReserve_64 rfl ⟨_, _, _, _, rfl, hs2⟩
    | succ k ih26 =>
      intro i hik
      have hpp := zSetPr_id (zSetRs a f x) i
      refine z_iload C dX2_setReserve_26 4 rfl ?_
      refine z_aload_n C dX2_setReserve_28 0 rfl ?_
      refine z_get C inX2_setReserve_X2 0 wB_o rfl 10 (by decide) (C.w 2 rfl) rfl dX2_setReserve_29 ?_
      refine z_icmp_ge C 54 dX2_setReserve_32 (by decide) (zle_NN (by omega) (by omega)) (fun h9 => absurd h9 (by omega)) (fun c_32 => ?_)
      refine z_aload_n C dX2_setReserve_35 0 rfl ?_
      refine z_iload C dX2_setReserve_36 4 rfl ?_
      refine z_aload_n C dX2_setReserve_38 0 rfl ?_
      refine z_get C inX2_setReserve_X2 0 wB_o rfl 6 (by decide) (C.w 3 rfl) rfl dX2_setReserve_39 ?_
      refine z_iload C dX2_setReserve_42 4 rfl ?_
      refine z_ialdN C 5 wB_pr (by omega) (by decide) dX2_setReserve_44 (v := nI (zPr (zSetRs a f x) i)) rfl ?_
      have f_44b := (h1.1.pr (b := i) (by omega))
      refine z_callV C (c_X2_putPrice l g q (zSetRs a f x) bs wb pd gw (fun k => if k < i then zGn (zSetRs a f x) k else zG0 a k) h1.1 i (zPr (zSetRs a f x) i) (by omega) (by rw [hpp]; exact h1.1)) (cwV 2 C.ts gX2_setReserve_X2_putPrice rfl rfl rfl (by decide +kernel) ⟨Nat.le_of_ble_eq_true rfl, Nat.le_of_ble_eq_true rfl⟩) wB_o rfl rfl rfl (Nat.le_of_ble_eq_true rfl) dX2_setReserve_45 ⟨Nat.zero_le _, Nat.zero_le _⟩ (z_v ?_)
      rw [hpp, show va_up (fun k => if k < i then zGn (zSetRs a f x) k else zG0 a k) i ((zPr (zSetRs a f x) i : Int) - (zRes (zSetRs a f x) (zBu (zSetRs a f x) i) : Int)) = (fun k => if k < (i + 1) then zGn (zSetRs a f x) k else zG0 a k) from zGi_up a f x i]
      refine z_iinc C dX2_setReserve_48 4 (nI (i + 1)) rfl (nI_add i 1) (by decide) [(4, .int (nI (i + 1))), (0, .ref (q 0)), (1, .int (nI f)), (2, .int (nI x)), (3, .int (nI (zRs a f)))] rfl ?_
      refine z_goto C 26 dX2_setReserve_51 (by decide) ?_
      refine zW.pick (lv' := [(0, .ref (q 0)), (1, .int (nI f)), (2, .int (nI x)), (3, .int (nI (zRs a f))), (4, .int (nI (i + 1)))]) [1, 2, 3, 4, 0] rfl ?_
      exact ih26 (i + 1) (by omega)
  exact hlp26 (zNb a) 0 (by omega)
theorem inX2_join_X2 : ∀ w ∈ wsX20, w ∈ wsX2_join := fun w h => List.mem_cons_of_mem _ (List.mem_append_left _ (List.mem_append_left _ (List.mem_append_left _ (List.mem_append_right _ (h)))))
set_option maxRecDepth 100000 in
set_option maxHeartbeats 4000000 in
theorem c_X2_join (l : Launch) (g : zG) (q : Nat → Nat) (a : zS) (bs : Nat → Int × Nat) (wb pd gw : Nat → Nat → Int) (ha : zInv a) (hs : zSet a bs wb pd gw 0 0) (hd : zNd a < 5) : zM g l yX2_join wsX2_join { frames := 30, cells := 0, slots := 0, locals := 798 } [.ref (q 0)] (wB g q a (zG0 a) bs wb pd gw) (zPie (nI (zNd a)) (zFace g q (zSetNd a (zNd a + 1)))) 0 0 := by
  refine zM.of (cc := cX2_join) (nL := 2) (ret := (some .int)) (lv := [(0, .ref (q 0))]) (by decide) rfl (Nat.le_of_ble_eq_true rfl) rfl ?_
  intro E C0 hi
  have C : zC g E cX2_join RX2 wsX2_join 2 (some .int) := C0
  have hi9 := ha
  have ha := hi9.1
  obtain ⟨hnf, hnd, hnb, hou, hrs, hbd⟩ := id ha
  have h1 := zInv_join hi9 hd
  refine z_aload_n C dX2_join_0 0 rfl ?_
  refine z_get C inX2_join_X2 0 wB_o rfl 3 (by decide) (C.w 3 rfl) rfl dX2_join_1 ?_
  refine z_iconst C (nI 5) dX2_join_4 (by decide) ?_
  refine z_icmp_lt C 18 dX2_join_5 (by decide) (zlt_NN (by omega) (by omega)) (fun c_5 => ?_) (fun h9 => absurd (by omega) h9)
  refine z_aload_n C dX2_join_18 0 rfl ?_
  refine z_get C inX2_join_X2 0 wB_o rfl 3 (by decide) (C.w 3 rfl) rfl dX2_join_19 ?_
  refine z_istore_n C dX2_join_22 (by decide) [(1, .int (nI (zNd a))), (0, .ref (q 0))] rfl ?_
  refine z_aload_n C dX2_join_23 1 rfl ?_
  refine z_get C inX2_join_X2 0 wB_o rfl 2 (by decide) (C.w 4 rfl) rfl dX2_join_24 ?_
  refine z_iload_n C dX2_join_27 0 rfl ?_
  refine z_iconst C (nI 1) dX2_join_28 (by decide) ?_
  refine z_zastN C 2 wB_in (by omega) (by decide) (y := bI true) (by decide) dX2_join_29 wB_join1 ?_
  refine z_aload_n C dX2_join_30 1 rfl ?_
  refine z_dup C dX2_join_31 rfl ?_
  refine z_get C inX2_join_X2 0 rfl rfl 3 (by decide) (C.w 3 rfl) rfl dX2_join_32 ?_
  refine z_iconst C (nI 1) dX2_join_35 (by decide) ?_
  refine z_iadd C dX2_join_36 (v := nI ((zNd a) + 1)) (nI_add (zNd a) 1) ?_
  refine z_put C inX2_join_X2 tyX2_ok nmX2 0 rfl rfl 3 (by decide) (C.w 3 rfl) rfl (tyX2_ok 3 (by decide)) rfl rfl (Nat.le_of_ble_eq_true rfl) dX2_join_37 (wB_join2 ha) ?_
  refine z_aload_n C dX2_join_40 1 rfl ?_
  refine z_aload_n C dX2_join_41 1 rfl ?_
  refine z_get C inX2_join_X2 0 wB_o rfl 11 (by decide) (C.w 5 rfl) rfl dX2_join_42 ?_
  refine z_iconst C (nI 0) dX2_join_45 (by decide) ?_
  refine z_callV C (c_X2_settle l g q (zSetNd a (zNd a + 1)) bs wb pd gw 0 h1.1 (by decide) 0) (cwV 2 C.ts gX2_join_X2_settle rfl rfl rfl (by decide +kernel) ⟨Nat.le_of_ble_eq_true rfl, Nat.le_of_ble_eq_true rfl⟩) wB_o rfl rfl rfl (Nat.le_of_ble_eq_true rfl) dX2_join_46 ⟨Nat.zero_le _, Nat.zero_le _⟩ (z_e ?_)
  rintro _ ⟨bs2, wb2, pd2, gw2, rfl, hs2, hk2⟩
  refine z_iload_n C dX2_join_49 0 rfl ?_
  exact z_iretE C dX2_join_50 rfl ⟨_, _, _, _, rfl, hs2⟩
theorem inX2_setIn_X2 : ∀ w ∈ wsX20, w ∈ wsX2_setIn := fun w h => List.mem_cons_of_mem _ (List.mem_append_left _ (List.mem_append_left _ (List.mem_append_left _ (List.mem_append_right _ (h)))))
set_option maxRecDepth 100000 in
set_option maxHeartbeats 4000000 in
theorem c_X2_setIn (l : Launch) (g : zG) (q : Nat → Nat) (a : zS) (bs : Nat → Int × Nat) (wb pd gw : Nat → Nat → Int) (ha : zInv a) (hs : zSet a bs wb pd gw 0 0) (d : Nat) (hd : d < zNd a) (v : Bool) : zM g l yX2_setIn wsX2_setIn { frames := 30, cells := 0, slots := 0, locals := 798 } [.ref (q 0), .int (nI d), .int (bI v)] (wB g q a (zG0 a) bs wb pd gw) (zPie (bI (zIn a d)) (zFace g q (zSetOu a (zOuIn (zOu a) d v)))) 0 0 := by
  refine zM.of (cc := cX2_setIn) (nL := 4) (ret := (some .boolean)) (lv := [(0, .ref (q 0)), (1, .int (nI d)), (2, .int (bI v))]) (by decide) rfl (Nat.le_of_ble_eq_true rfl) rfl ?_
  intro E C0 hi
  have C : zC g E cX2_setIn RX2 wsX2_setIn 4 (some .boolean) := C0
  have hi9 := ha
  have ha := hi9.1
  obtain ⟨hnf, hnd, hnb, hou, hrs, hbd⟩ := id ha
  have h1 := zInv_setOu hi9 hd v
  refine z_aload_n C dX2_setIn_0 0 rfl ?_
  refine z_iload_n C dX2_setIn_1 1 rfl ?_
  refine z_callV C (c_X2_requireBidder l g q a bs wb pd gw ha d (by omega)) (cwV 1 C.ts gX2_setIn_X2_requireBidder rfl rfl rfl (by decide +kernel) ⟨Nat.le_of_ble_eq_true rfl, Nat.le_of_ble_eq_true rfl⟩) wB_o rfl rfl rfl (Nat.le_of_ble_eq_true rfl) dX2_setIn_2 ⟨Nat.zero_le _, Nat.zero_le _⟩ (z_v ?_)
  refine z_aload_n C dX2_setIn_5 0 rfl ?_
  refine z_get C inX2_setIn_X2 0 wB_o rfl 2 (by decide) (C.w 1 rfl) rfl dX2_setIn_6 ?_
  refine z_iload_n C dX2_setIn_9 1 rfl ?_
  refine z_zaldN C 2 wB_in (by omega) (by decide) dX2_setIn_10 (v := bI (zIn a d)) rfl ?_
  refine z_istore_n C dX2_setIn_11 (by decide) [(3, .int (bI (zIn a d))), (0, .ref (q 0)), (1, .int (nI d)), (2, .int (bI v))] rfl ?_
  refine z_aload_n C dX2_setIn_12 1 rfl ?_
  refine z_get C inX2_setIn_X2 0 wB_o rfl 2 (by decide) (C.w 1 rfl) rfl dX2_setIn_13 ?_
  refine z_iload_n C dX2_setIn_16 2 rfl ?_
  refine z_iload_n C dX2_setIn_17 3 rfl ?_
  refine z_zastN C 2 wB_in (by omega) (by decide) (zbI_vp _) dX2_setIn_18 (wB_setIn ha hd v) ?_
  refine z_aload_n C dX2_setIn_19 1 rfl ?_
  refine z_aload_n C dX2_setIn_20 1 rfl ?_
  refine z_get C inX2_setIn_X2 0 wB_o rfl 11 (by decide) (C.w 2 rfl) rfl dX2_setIn_21 ?_
  refine z_iconst C (nI 0) dX2_setIn_24 (by decide) ?_
  refine z_callV C (c_X2_settle l g q (zSetOu a (zOuIn (zOu a) d v)) bs wb pd gw 0 h1.1 (by decide) 0) (cwV 2 C.ts gX2_setIn_X2_settle rfl rfl rfl (by decide +kernel) ⟨Nat.le_of_ble_eq_true rfl, Nat.le_of_ble_eq_true rfl⟩) wB_o rfl rfl rfl (Nat.le_of_ble_eq_true rfl) dX2_setIn_25 ⟨Nat.zero_le _, Nat.zero_le _⟩ (z_e ?_)
  rintro _ ⟨bs2, wb2, pd2, gw2, rfl, hs2, hk2⟩
  refine z_iload_n C dX2_setIn_28 0 rfl ?_
  exact z_zretE C dX2_setIn_29 rfl ⟨_, _, _, _, rfl, hs2⟩
theorem inX2_bid_X2 : ∀ w ∈ wsX20, w ∈ wsX2_bid := fun w h => List.mem_cons_of_mem _ (List.mem_append_left _ (List.mem_append_left _ (List.mem_append_left _ (List.mem_append_left _ (List.mem_append_left _ (List.mem_append_right _ (h)))))))
set_option maxRecDepth 100000 in
set_option maxHeartbeats 4000000 in
theorem c_X2_bid (l : Launch) (g : zG) (q : Nat → Nat) (a : zS) (bs : Nat → Int × Nat) (wb pd gw : Nat → Nat → Int) (ha : zInv a) (hs : zSet a bs wb pd gw 0 0) (d m x : Nat) (hd : d < zNd a) (hm0 : 0 < m) (hm : m < 2 ^ zNf a) (hx : x ≤ 999) (hb : zNb a < 12) : zM g l yX2_bid wsX2_bid { frames := 30, cells := 0, slots := 0, locals := 798 } [.ref (q 0), .int (nI d), .int (nI m), .int (nI x)] (wB g q a (zG0 a) bs wb pd gw) (zPie (nI (zNb a)) (zFace g q (zBid a d m x))) 0 0 := by
  refine zM.of (cc := cX2_bid) (nL := 5) (ret := (some .int)) (lv := [(0, .ref (q 0)), (1, .int (nI d)), (2, .int (nI m)), (3, .int (nI x))]) (by decide) rfl (Nat.le_of_ble_eq_true rfl) rfl ?_
  intro E C0 hi
  have C : zC g E cX2_bid RX2 wsX2_bid 5 (some .int) := C0
  have hi9 := ha
  have ha := hi9.1
  obtain ⟨hnf, hnd, hnb, hou, hrs, hbd⟩ := id ha
  have h1 := zInv_bid hi9 hd hm0 hm hx hb
  have h2 := zOk_at ha d m x x
  refine z_aload_n C dX2_bid_0 0 rfl ?_
  refine z_iload_n C dX2_bid_1 1 rfl ?_
  refine z_callV C (c_X2_requireBidder l g q a bs wb pd gw ha d (by omega)) (cwV 1 C.ts gX2_bid_X2_requireBidder rfl rfl rfl (by decide +kernel) ⟨Nat.le_of_ble_eq_true rfl, Nat.le_of_ble_eq_true rfl⟩) wB_o rfl rfl rfl (Nat.le_of_ble_eq_true rfl) dX2_bid_2 ⟨Nat.zero_le _, Nat.zero_le _⟩ (z_v ?_)
  refine z_aload_n C dX2_bid_5 0 rfl ?_
  refine z_iload_n C dX2_bid_6 2 rfl ?_
  refine z_callV C (c_X2_requireBundle l g q a bs wb pd gw ha m (by omega) hm) (cwV 1 C.ts gX2_bid_X2_requireBundle rfl rfl rfl (by decide +kernel) ⟨Nat.le_of_ble_eq_true rfl, Nat.le_of_ble_eq_true rfl⟩) wB_o rfl rfl rfl (Nat.le_of_ble_eq_true rfl) dX2_bid_7 ⟨Nat.zero_le _, Nat.zero_le _⟩ (z_v ?_)
  refine z_iload_n C dX2_bid_10 3 rfl ?_
  refine z_callS C (c_X2_requireAmount l g (wB g q a (zG0 a) bs wb pd gw) x (by omega)) (va_cwS 1 C.ts gX2_bid_X2_requireAmount rfl rfl rfl (by decide +kernel) ⟨Nat.le_of_ble_eq_true rfl, Nat.le_of_ble_eq_true rfl⟩) rfl rfl (Nat.le_of_ble_eq_true rfl) dX2_bid_11 ⟨Nat.zero_le _, Nat.zero_le _⟩ (z_v ?_)
  refine z_aload_n C dX2_bid_14 0 rfl ?_
  refine z_get C inX2_bid_X2 0 wB_o rfl 10 (by decide) (C.w 3 rfl) rfl dX2_bid_15 ?_
  refine z_bipush C (nI 12) dX2_bid_18 (by decide) ?_
  refine z_icmp_lt C 33 dX2_bid_20 (by decide) (zlt_NN (by omega) (by omega)) (fun c_20 => ?_) (fun h9 => absurd (by omega) h9)
  refine z_aload_n C dX2_bid_33 0 rfl ?_
  refine z_get C inX2_bid_X2 0 wB_o rfl 10 (by decide) (C.w 3 rfl) rfl dX2_bid_34 ?_
  refine z_istore C dX2_bid_37 (by decide) [(4, .int (nI (zNb a))), (0, .ref (q 0)), (1, .int (nI d)), (2, .int (nI m)), (3, .int (nI x))] rfl ?_
  refine z_aload_n C dX2_bid_39 1 rfl ?_
  refine z_get C inX2_bid_X2 0 wB_o rfl 4 (by decide) (C.w 4 rfl) rfl dX2_bid_40 ?_
  refine z_iload C dX2_bid_43 0 rfl ?_
  refine z_iload_n C dX2_bid_45 2 rfl ?_
  refine z_iastN C 3 wB_ow (by omega) (by decide) dX2_bid_46 (wB_set_ow (zNb a) d) ?_
  refine z_aload_n C dX2_bid_47 1 rfl ?_
  refine z_get C inX2_bid_X2 0 wB_o rfl 5 (by decide) (C.w 5 rfl) rfl dX2_bid_48 ?_
  refine z_iload C dX2_bid_51 0 rfl ?_
  refine z_iload_n C dX2_bid_53 3 rfl ?_
  refine z_iastN C 4 wB_bu (by omega) (by decide) dX2_bid_54 (wB_set_bu (zNb a) m) ?_
  refine z_aload_n C dX2_bid_55 1 rfl ?_
  refine z_get C inX2_bid_X2 0 wB_o rfl 8 (by decide) (C.w 6 rfl) rfl dX2_bid_56 ?_
  refine z_iload C dX2_bid_59 0 rfl ?_
  refine z_iload_n C dX2_bid_61 4 rfl ?_
  refine z_iastN C 7 wB_wo (by omega) (by decide) dX2_bid_62 (wB_set_wo (zNb a) x) ?_
  refine z_aload_n C dX2_bid_63 1 rfl ?_
  refine z_iload C dX2_bid_64 0 rfl ?_
  refine z_iload_n C dX2_bid_66 4 rfl ?_
  refine z_callV C (c_X2_putPrice l g q (zSetWo (zSetBu (zSetOw a (zNb a) d) (zNb a) m) (zNb a) x) bs wb pd gw (zG0 a) h2.2 (zNb a) x (by omega) h2.1) (cwV 2 C.ts gX2_bid_X2_putPrice rfl rfl rfl (by decide +kernel) ⟨Nat.le_of_ble_eq_true rfl, Nat.le_of_ble_eq_true rfl⟩) wB_o rfl rfl rfl (Nat.le_of_ble_eq_true rfl) dX2_bid_67 ⟨Nat.zero_le _, Nat.zero_le _⟩ (z_v ?_)
  refine z_aload_n C dX2_bid_70 1 rfl ?_
  refine z_dup C dX2_bid_71 rfl ?_
  refine z_get C inX2_bid_X2 0 wB_o rfl 10 (by decide) (C.w 3 rfl) rfl dX2_bid_72 ?_
  refine z_iconst C (nI 1) dX2_bid_75 (by decide) ?_
  refine z_iadd C dX2_bid_76 (v := nI ((zNb (zSetPr (zSetWo (zSetBu (zSetOw a (zNb a) d) (zNb a) m) (zNb a) x) (zNb a) x)) + 1)) (nI_add (zNb (zSetPr (zSetWo (zSetBu (zSetOw a (zNb a) d) (zNb a) m) (zNb a) x) (zNb a) x)) 1) ?_
  refine z_put C inX2_bid_X2 tyX2_ok nmX2 0 wB_o rfl 10 (by decide) (C.w 3 rfl) rfl (tyX2_ok 10 (by decide)) rfl rfl (Nat.le_of_ble_eq_true rfl) dX2_bid_77 (wB_set_nb _) ?_
  rw [show va_up (zG0 a) (zNb a) _ = zG0 (zBid a d m x) from (by rw [← zG0_bid]; show va_up (zG0 a) (zNb a) ((x : Int) - (zRes a (va_up (zBu a) (zNb a) m (zNb a)) : Int)) = _; rw [va_up_self])]
  refine z_aload_n C dX2_bid_80 1 rfl ?_
  refine z_aload_n C dX2_bid_81 1 rfl ?_
  refine z_get C inX2_bid_X2 0 wB_o rfl 11 (by decide) (C.w 7 rfl) rfl dX2_bid_82 ?_
  refine z_iconst C (nI 0) dX2_bid_85 (by decide) ?_
  refine z_callV C (c_X2_settle l g q (zBid a d m x) bs wb pd gw 0 h1.1 (by decide) 0) (cwV 2 C.ts gX2_bid_X2_settle rfl rfl rfl (by decide +kernel) ⟨Nat.le_of_ble_eq_true rfl, Nat.le_of_ble_eq_true rfl⟩) wB_o rfl rfl rfl (Nat.le_of_ble_eq_true rfl) dX2_bid_86 ⟨Nat.zero_le _, Nat.zero_le _⟩ (z_e ?_)
  rintro _ ⟨bs2, wb2, pd2, gw2, rfl, hs2, hk2⟩
  refine z_iload C dX2_bid_89 0 rfl ?_
  exact z_iretE C dX2_bid_91 rfl ⟨_, _, _, _, rfl, hs2⟩
theorem inX2_setPrice_X2 : ∀ w ∈ wsX20, w ∈ wsX2_setPrice := fun w h => List.mem_cons_of_mem _ (List.mem_append_left _ (List.mem_append_left _ (List.mem_append_left _ (List.mem_append_left _ (List.mem_append_right _ (h))))))
set_option maxRecDepth 100000 in
set_option maxHeartbeats 4000000 in
theorem c_X2_setPrice (l : Launch) (g : zG) (q : Nat → Nat) (a : zS) (bs : Nat → Int × Nat) (wb pd gw : Nat → Nat → Int) (ha : zInv a) (hs : zSet a bs wb pd gw 0 0) (b x : Nat) (hb : b < zNb a) (hx : x ≤ 999) : zM g l yX2_setPrice wsX2_setPrice { frames := 30, cells := 0, slots := 0, locals := 798 } [.ref (q 0), .int (nI b), .int (nI x)] (wB g q a (zG0 a) bs wb pd gw) (zPie (nI (zPr a b)) (zFace g q (zSetPr a b x))) 0 0 := by
  refine zM.of (cc := cX2_setPrice) (nL := 4) (ret := (some .int)) (lv := [(0, .ref (q 0)), (1, .int (nI b)), (2, .int (nI x))]) (by decide) rfl (Nat.le_of_ble_eq_true rfl) rfl ?_
  intro E C0 hi
  have C : zC g E cX2_setPrice RX2 wsX2_setPrice 4 (some .int) := C0
  have hi9 := ha
  have ha := hi9.1
  obtain ⟨hnf, hnd, hnb, hou, hrs, hbd⟩ := id ha
  have h1 := zInv_setPr (b := b) hi9 hx
  refine z_aload_n C dX2_setPrice_0 0 rfl ?_
  refine z_iload_n C dX2_setPrice_1 1 rfl ?_
  refine z_callV C (c_X2_requireBid l g q a bs wb pd gw ha b (by omega)) (cwV 1 C.ts gX2_setPrice_X2_requireBid rfl rfl rfl (by decide +kernel) ⟨Nat.le_of_ble_eq_true rfl, Nat.le_of_ble_eq_true rfl⟩) wB_o rfl rfl rfl (Nat.le_of_ble_eq_true rfl) dX2_setPrice_2 ⟨Nat.zero_le _, Nat.zero_le _⟩ (z_v ?_)
  refine z_iload_n C dX2_setPrice_5 2 rfl ?_
  refine z_callS C (c_X2_requireAmount l g (wB g q a (zG0 a) bs wb pd gw) x (by omega)) (va_cwS 1 C.ts gX2_setPrice_X2_requireAmount rfl rfl rfl (by decide +kernel) ⟨Nat.le_of_ble_eq_true rfl, Nat.le_of_ble_eq_true rfl⟩) rfl rfl (Nat.le_of_ble_eq_true rfl) dX2_setPrice_6 ⟨Nat.zero_le _, Nat.zero_le _⟩ (z_v ?_)
  refine z_aload_n C dX2_setPrice_9 0 rfl ?_
  refine z_get C inX2_setPrice_X2 0 wB_o rfl 6 (by decide) (C.w 1 rfl) rfl dX2_setPrice_10 ?_
  refine z_iload_n C dX2_setPrice_13 1 rfl ?_
  refine z_ialdN C 5 wB_pr (by omega) (by decide) dX2_setPrice_14 (v := nI (zPr a b)) rfl ?_
  have f_14b := (ha.pr (b := b) (by omega))
  refine z_istore_n C dX2_setPrice_15 (by decide) [(3, .int (nI (zPr a b))), (0, .ref (q 0)), (1, .int (nI b)), (2, .int (nI x))] rfl ?_
  refine z_aload_n C dX2_setPrice_16 1 rfl ?_
  refine z_iload_n C dX2_setPrice_17 2 rfl ?_
  refine z_iload_n C dX2_setPrice_18 3 rfl ?_
  refine z_callV C (c_X2_putPrice l g q a bs wb pd gw (zG0 a) ha b x (by omega) h1.1) (cwV 2 C.ts gX2_setPrice_X2_putPrice rfl rfl rfl (by decide +kernel) ⟨Nat.le_of_ble_eq_true rfl, Nat.le_of_ble_eq_true rfl⟩) wB_o rfl rfl rfl (Nat.le_of_ble_eq_true rfl) dX2_setPrice_19 ⟨Nat.zero_le _, Nat.zero_le _⟩ (z_v ?_)
  rw [zG0_setPr _ (by omega)]
  refine z_aload_n C dX2_setPrice_22 1 rfl ?_
  refine z_aload_n C dX2_setPrice_23 1 rfl ?_
  refine z_get C inX2_setPrice_X2 0 wB_o rfl 11 (by decide) (C.w 2 rfl) rfl dX2_setPrice_24 ?_
  refine z_iconst C (nI 0) dX2_setPrice_27 (by decide) ?_
  refine z_callV C (c_X2_settle l g q (zSetPr a b x) bs wb pd gw 0 h1.1 (by decide) 0) (cwV 2 C.ts gX2_setPrice_X2_settle rfl rfl rfl (by decide +kernel) ⟨Nat.le_of_ble_eq_true rfl, Nat.le_of_ble_eq_true rfl⟩) wB_o rfl rfl rfl (Nat.le_of_ble_eq_true rfl) dX2_setPrice_28 ⟨Nat.zero_le _, Nat.zero_le _⟩ (z_e ?_)
  rintro _ ⟨bs2, wb2, pd2, gw2, rfl, hs2, hk2⟩
  refine z_iload_n C dX2_setPrice_31 0 rfl ?_
  exact z_iretE C dX2_setPrice_32 rfl ⟨_, _, _, _, rfl, hs2⟩
theorem zDfs_wo (a : zS) (b x : Nat) (ab : Nat) : zFw (zSetWo a b x) ab = zFw a ab := zDfs_cong (a := zSetWo a b x) (a' := a) (n := zNb a) (fun _ _ => ⟨rfl, rfl, rfl, rfl⟩) _ _ _ _ _ _ _ (by show 0 + zNb a ≤ _; omega)
theorem zLp_wo (a : zS) (b x ab e : Nat) : ∀ n, zLp (zSetWo a b x) ab n e = zLp a ab n e
  | 0 => rfl
  | n + 1 => by
    unfold zLp
    rw [zLp_wo a b x ab e n, zDfs_wo]
    unfold zGw
    rw [zDfs_wo]
    rfl
theorem zSet_wo {a : zS} {b x : Nat} {bs : Nat → Int × Nat} {wb pd gw : Nat → Nat → Int} {z ab : Nat} (h : zSet a bs wb pd gw z ab) : zSet (zSetWo a b x) bs wb pd gw z ab := by
  refine ⟨by rw [zDfs_wo]; exact h.1, fun d hd => ?_⟩
  obtain ⟨h1, h2, h3⟩ := h.2 d hd
  refine ⟨?_, ?_, ?_⟩
  · rw [h1, zDfs_wo]; exact (zLw_cong (a := zSetWo a b x) (a' := a) _ (fun _ _ => rfl)).symm
  · rw [h2]; exact (zLp_wo a b x ab d _).symm
  · rw [h3]; unfold zGw; rw [zDfs_wo]; rfl
theorem inX2_setWorth_X2 : ∀ w ∈ wsX20, w ∈ wsX2_setWorth := fun w h => List.mem_cons_of_mem _ (List.mem_append_left _ (List.mem_append_left _ (List.mem_append_right _ (h))))
set_option maxRecDepth 100000 in
set_option maxHeartbeats 4000000 in
theorem c_X2_setWorth (l : Launch) (g : zG) (q : Nat → Nat) (a : zS) (bs : Nat → Int × Nat) (wb pd gw : Nat → Nat → Int) (ha : zInv a) (hs : zSet a bs wb pd gw 0 0) (b x : Nat) (hb : b < zNb a) (hx : x ≤ 999) : zM g l yX2_setWorth wsX2_setWorth { frames := 1, cells := 0, slots := 0, locals := 21 } [.ref (q 0), .int (nI b), .int (nI x)] (wB g q a (zG0 a) bs wb pd gw) (zPie (nI (zWo a b)) (zFace g q (zSetWo a b x))) 0 0 := by
  refine zM.of (cc := cX2_setWorth) (nL := 4) (ret := (some .int)) (lv := [(0, .ref (q 0)), (1, .int (nI b)), (2, .int (nI x))]) (by decide) rfl (Nat.le_of_ble_eq_true rfl) rfl ?_
  intro E C0 hi
  have C : zC g E cX2_setWorth RX2 wsX2_setWorth 4 (some .int) := C0
  have hi9 := ha
  have ha := hi9.1
  obtain ⟨hnf, hnd, hnb, hou, hrs, hbd⟩ := id ha
  refine z_aload_n C dX2_setWorth_0 0 rfl ?_
  refine z_iload_n C dX2_setWorth_1 1 rfl ?_
  refine z_callV C (c_X2_requireBid l g q a bs wb pd gw ha b (by omega)) (cwV 1 C.ts gX2_setWorth_X2_requireBid rfl rfl rfl (by decide +kernel) ⟨Nat.le_of_ble_eq_true rfl, Nat.le_of_ble_eq_true rfl⟩) wB_o rfl rfl rfl (Nat.le_of_ble_eq_true rfl) dX2_setWorth_2 ⟨Nat.zero_le _, Nat.zero_le _⟩ (z_v ?_)
  refine z_iload_n C dX2_setWorth_5 2 rfl ?_
  refine z_callS C (c_X2_requireAmount l g (wB g q a (zG0 a) bs wb pd gw) x (by omega)) (va_cwS 1 C.ts gX2_setWorth_X2_requireAmount rfl rfl rfl (by decide +kernel) ⟨Nat.le_of_ble_eq_true rfl, Nat.le_of_ble_eq_true rfl⟩) rfl rfl (Nat.le_of_ble_eq_true rfl) dX2_setWorth_6 ⟨Nat.zero_le _, Nat.zero_le _⟩ (z_v ?_)
  refine z_aload_n C dX2_setWorth_9 0 rfl ?_
  refine z_get C inX2_setWorth_X2 0 wB_o rfl 8 (by decide) (C.w 1 rfl) rfl dX2_setWorth_10 ?_
  refine z_iload_n C dX2_setWorth_13 1 rfl ?_
  refine z_ialdN C 7 wB_wo (by omega) (by decide) dX2_setWorth_14 (v := nI (zWo a b)) rfl ?_
  have f_14b := (ha.wo (b := b) (by omega))
  refine z_istore_n C dX2_setWorth_15 (by decide) [(3, .int (nI (zWo a b))), (0, .ref (q 0)), (1, .int (nI b)), (2, .int (nI x))] rfl ?_
  refine z_aload_n C dX2_setWorth_16 1 rfl ?_
  refine z_get C inX2_setWorth_X2 0 wB_o rfl 8 (by decide) (C.w 1 rfl) rfl dX2_setWorth_17 ?_
  refine z_iload_n C dX2_setWorth_20 2 rfl ?_
  refine z_iload_n C dX2_setWorth_21 3 rfl ?_
  refine z_iastN C 7 wB_wo (by omega) (by decide) dX2_setWorth_22 (wB_set_wo b x) ?_
  refine z_iload_n C dX2_setWorth_23 0 rfl ?_
  exact z_iretE C dX2_setWorth_24 rfl ⟨bs, wb, pd, gw, rfl, zSet_wo hs⟩
theorem inX2_withdraw_X2 : ∀ w ∈ wsX20, w ∈ wsX2_withdraw := fun w h => List.mem_cons_of_mem _ (List.mem_append_left _ (List.mem_append_left _ (List.mem_append_left _ (List.mem_append_left _ (List.mem_append_right _ (h))))))
set_option maxRecDepth 100000 in
set_option maxHeartbeats 4000000 in
theorem c_X2_withdraw (l : Launch) (g : zG) (q : Nat → Nat) (a : zS) (bs : Nat → Int × Nat) (wb pd gw : Nat → Nat → Int) (ha : zInv a) (hs : zSet a bs wb pd gw 0 0) (b : Nat) (hb : b < zNb a) (hg : zGo a b = 0) : zM g l yX2_withdraw wsX2_withdraw { frames := 30, cells := 0, slots := 0, locals := 798 } [.ref (q 0), .int (nI b)] (wB g q a (zG0 a) bs wb pd gw) (zPie (nI (zSum (zLof (zSetGo a b 1)) (zNd a))) (zFace g q (zSetGo a b 1))) 0 0 := by
  refine zM.of (cc := cX2_withdraw) (nL := 2) (ret := (some .int)) (lv := [(0, .ref (q 0)), (1, .int (nI b))]) (by decide) rfl (Nat.le_of_ble_eq_true rfl) rfl ?_
  intro E C0 hi
  have C : zC g E cX2_withdraw RX2 wsX2_withdraw 2 (some .int) := C0
  have hi9 := ha
  have ha := hi9.1
  obtain ⟨hnf, hnd, hnb, hou, hrs, hbd⟩ := id ha
  have h1 := zInv_setGo hi9 hb
  refine z_aload_n C dX2_withdraw_0 0 rfl ?_
  refine z_iload_n C dX2_withdraw_1 1 rfl ?_
  refine z_callV C (c_X2_requireBid l g q a bs wb pd gw ha b (by omega)) (cwV 1 C.ts gX2_withdraw_X2_requireBid rfl rfl rfl (by decide +kernel) ⟨Nat.le_of_ble_eq_true rfl, Nat.le_of_ble_eq_true rfl⟩) wB_o rfl rfl rfl (Nat.le_of_ble_eq_true rfl) dX2_withdraw_2 ⟨Nat.zero_le _, Nat.zero_le _⟩ (z_v ?_)
  refine z_aload_n C dX2_withdraw_5 0 rfl ?_
  refine z_get C inX2_withdraw_X2 0 wB_o rfl 9 (by decide) (C.w 3 rfl) rfl dX2_withdraw_6 ?_
  refine z_iload_n C dX2_withdraw_9 1 rfl ?_
  refine z_zaldN C 8 wB_go (by omega) (by decide) dX2_withdraw_10 (v := nI (zGo a b)) rfl ?_
  have f_10b := (ha.go (b := b) (by omega))
  refine z_if_eq C 24 dX2_withdraw_11 (by decide) (zeq_N0 (by omega)) (fun c_11 => ?_) (fun h9 => absurd hg h9)
  refine z_aload_n C dX2_withdraw_24 0 rfl ?_
  refine z_get C inX2_withdraw_X2 0 wB_o rfl 9 (by decide) (C.w 3 rfl) rfl dX2_withdraw_25 ?_
  refine z_iload_n C dX2_withdraw_28 1 rfl ?_
  refine z_iconst C (nI 1) dX2_withdraw_29 (by decide) ?_
  refine z_zastN C 8 wB_go (by omega) (by decide) (y := nI 1) (by decide) dX2_withdraw_30 (wB_set_go b 1) ?_
  refine z_aload_n C dX2_withdraw_31 0 rfl ?_
  refine z_aload_n C dX2_withdraw_32 0 rfl ?_
  refine z_get C inX2_withdraw_X2 0 wB_o rfl 11 (by decide) (C.w 4 rfl) rfl dX2_withdraw_33 ?_
  refine z_iconst C (nI 0) dX2_withdraw_36 (by decide) ?_
  refine z_callV C (c_X2_settle l g q (zSetGo a b 1) bs wb pd gw 0 h1.1 (by decide) 0) (cwV 2 C.ts gX2_withdraw_X2_settle rfl rfl rfl (by decide +kernel) ⟨Nat.le_of_ble_eq_true rfl, Nat.le_of_ble_eq_true rfl⟩) wB_o rfl rfl rfl (Nat.le_of_ble_eq_true rfl) dX2_withdraw_37 ⟨Nat.zero_le _, Nat.zero_le _⟩ (z_e ?_)
  rintro _ ⟨bs2, wb2, pd2, gw2, rfl, hs2, hk2⟩
  refine z_aload_n C dX2_withdraw_40 0 rfl ?_
  refine z_callV C (c_X2_bidsLeft l g q (zSetGo a b 1) bs2 wb2 pd2 gw2 h1.1) (cwV 0 C.ts gX2_withdraw_X2_bidsLeft rfl rfl rfl (by decide +kernel) ⟨Nat.le_of_ble_eq_true rfl, Nat.le_of_ble_eq_true rfl⟩) wB_o rfl rfl rfl (Nat.le_of_ble_eq_true rfl) dX2_withdraw_41 ⟨Nat.zero_le _, Nat.zero_le _⟩ (z_i ?_)
  exact z_iretE C dX2_withdraw_44 rfl ⟨_, _, _, _, rfl, hs2⟩
