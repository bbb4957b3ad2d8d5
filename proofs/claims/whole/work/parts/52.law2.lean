theorem zapp_tl {α : Type} {w : List α} {x y : α} {n0 : Nat} (h : w.length = n0) : (w ++ [x]).set n0 y = w ++ [y] := by
  subst h
  rw [List.set_append_right _ _ (Nat.le_refl _), Nat.sub_self]
  rfl
/-- a wrapper's end: the class's world, and the row for the answer -/
def zWp (g : zG) (q : Nat → Nat) (qo : Nat) (a : zS) (k : Nat) (v : Int32) : va_W → Prop := fun W => ∃ (w' : va_W) (f : Nat → Int64), zFace g q a w' ∧ (k = 0 → f 0 = v.toInt64) ∧ W = w' ++ [(qo, .inl (zJ g, 1, .inr (.inl f)))]
set_option maxRecDepth 100000 in
set_option maxHeartbeats 4000000 in
theorem w_field_0 (l : Launch) (g : zG) (q : Nat → Nat) (a : zS) (bs : Nat → Int × Nat) (wb pd gw : Nat → Nat → Int) (qo : Nat) (fo : Nat → Int64) (hl9 : l.stackTraces = false) (hi : zInv a) (hs : zSet a bs wb pd gw 0 0) (j : Nat) (h0 : j ≤ 99) (h1 : zNf a < 8) : zMH g l yL_field wsL_field { frames := 8, cells := 0, slots := 0, locals := 132 } [.ref (q 0), .int (nI j), .ref qo] (wB g q a (zG0 a) bs wb pd gw ++ [(qo, .inl (zJ g, 1, .inr (.inl fo)))]) (zPie (nI 0) (zWp g q qo (zSetNf (zSetRs a (zNf a) j) (zNf a + 1)) 0 (nI (zNf a)))) 0 0 := by
  refine zMH.of (cc := cL_field) (nL := 4) (ret := (some .int)) (lv := [(0, .ref (q 0)), (1, .int (nI j)), (2, .ref qo)]) (by decide) rfl (Nat.le_of_ble_eq_true rfl) rfl ?_
  intro E C0 F ht
  have C : zC g E cL_field RL wsL_field 4 (some .int) := C0
  clear C0
  refine z_aload_n C dL_field_0 2 rfl ?_
  refine z_iconst C (nI 0) dL_field_1 (by decide) ?_
  refine z_aload_n C dL_field_2 0 rfl ?_
  refine z_iload_n C dL_field_3 1 rfl ?_
  refine z_callV C (zM.fr (c_X2_field l g q a bs wb pd gw hi hs j h0 h1) [] [(qo, .inl (zJ g, 1, .inr (.inl fo)))]) (cwV 1 C.ts gL_field_X2_field rfl rfl rfl (by decide +kernel) ⟨Nat.le_of_ble_eq_true rfl, Nat.le_of_ble_eq_true rfl⟩) (zapp_l wB_o) rfl rfl rfl (Nat.le_of_ble_eq_true rfl) dL_field_4 ⟨Nat.zero_le _, Nat.zero_le _⟩ ?_
  rintro _ _ ⟨_, ⟨rfl, bs2, wb2, pd2, gw2, rfl, hs2⟩, rfl⟩
  refine zW.eqw (ws2 := wB g q (zSetNf (zSetRs a (zNf a) j) (zNf a + 1)) (zG0 (zSetNf (zSetRs a (zNf a) j) (zNf a + 1))) bs2 wb2 pd2 gw2 ++ [(qo, .inl (zJ g, 1, .inr (.inl fo)))]) rfl ?_
  refine z_i2l C dL_field_7 (v := (nI (zNf a)).toInt64) rfl ?_
  refine z_lastN C 20 rfl (by omega) (by decide) dL_field_8 (zapp_tl rfl) ?_
  refine z_goto C 18 dL_field_9 (by decide) ?_
  refine z_iconst C (nI 0) dL_field_18 (by decide) ?_
  exact z_iretE C dL_field_19 rfl ⟨_, _, ⟨_, _, _, _, rfl, hs2⟩, fun _ => rfl, rfl⟩
set_option maxRecDepth 100000 in
set_option maxHeartbeats 4000000 in
theorem w_field_1 (l : Launch) (g : zG) (q : Nat → Nat) (a : zS) (bs : Nat → Int × Nat) (wb pd gw : Nat → Nat → Int) (qo : Nat) (fo : Nat → Int64) (hl9 : l.stackTraces = false) (hi : zInv a) (hs : zSet a bs wb pd gw 0 0) (x1 : Int32) (h0 : zBad x1 100) (v : Int32) : zMH g l yL_field wsL_field { frames := 8, cells := 1, slots := 6, locals := 132 } [.ref (q 0), .int x1, .ref qo] (wB g q a (zG0 a) bs wb pd gw ++ [(qo, .inl (zJ g, 1, .inr (.inl fo)))]) (zPie (nI 1) (zWp g q qo a 1 (v))) 1 6 := by
  refine zMH.of (cc := cL_field) (nL := 4) (ret := (some .int)) (lv := [(0, .ref (q 0)), (1, .int x1), (2, .ref qo)]) (by decide) rfl (Nat.le_of_ble_eq_true rfl) rfl ?_
  intro E C0 F ht
  have C : zC g E cL_field RL wsL_field 4 (some .int) := C0
  clear C0
  refine z_aload_n C dL_field_0 2 rfl ?_
  refine z_iconst C (nI 0) dL_field_1 (by decide) ?_
  refine z_aload_n C dL_field_2 0 rfl ?_
  refine z_iload_n C dL_field_3 1 rfl ?_
  refine z_xcallV C F (zX.fr (x_X2_field_e1 l g q a bs wb pd gw hl9 hi.1 x1 h0) [] [(qo, .inl (zJ g, 1, .inr (.inl fo)))]) (cwV 1 C.ts gL_field_X2_field rfl rfl rfl (by decide +kernel) ⟨Nat.le_of_ble_eq_true rfl, Nat.le_of_ble_eq_true rfl⟩) (zapp_l wB_o) rfl rfl rfl (Nat.le_of_ble_eq_true rfl) dL_field_4 ⟨Nat.le_of_ble_eq_true rfl, Nat.le_of_ble_eq_true rfl⟩ (z_xcatch C [] ⟨0, 9, 12, 13⟩ [⟨0, 9, 15, 15⟩] (ht.trans rfl) (fun _ h9 => nomatch h9) (by decide) (by decide) (C.w 1 rfl) (z_cast C 16 rfl) (fun q9 => ?_))
  refine z_astore_n C dL_field_12 (by decide) [(3, .ref q9), (0, .ref (q 0)), (1, .int x1), (2, .ref qo)] rfl ?_
  refine z_iconst C (nI 1) dL_field_13 (by decide) ?_
  exact z_iretE C dL_field_14 rfl ⟨_, _, ⟨_, _, _, _, rfl, hs⟩, fun h => absurd h (by decide), rfl⟩
set_option maxRecDepth 100000 in
set_option maxHeartbeats 4000000 in
theorem w_field_2 (l : Launch) (g : zG) (q : Nat → Nat) (a : zS) (bs : Nat → Int × Nat) (wb pd gw : Nat → Nat → Int) (qo : Nat) (fo : Nat → Int64) (hl9 : l.stackTraces = false) (hi : zInv a) (hs : zSet a bs wb pd gw 0 0) (j : Nat) (h0 : j ≤ 99) (h1 : zNf a = 8) (v : Int32) : zMH g l yL_field wsL_field { frames := 8, cells := 1, slots := 6, locals := 132 } [.ref (q 0), .int (nI j), .ref qo] (wB g q a (zG0 a) bs wb pd gw ++ [(qo, .inl (zJ g, 1, .inr (.inl fo)))]) (zPie (nI 2) (zWp g q qo a 2 (v))) 1 6 := by
  refine zMH.of (cc := cL_field) (nL := 4) (ret := (some .int)) (lv := [(0, .ref (q 0)), (1, .int (nI j)), (2, .ref qo)]) (by decide) rfl (Nat.le_of_ble_eq_true rfl) rfl ?_
  intro E C0 F ht
  have C : zC g E cL_field RL wsL_field 4 (some .int) := C0
  clear C0
  refine z_aload_n C dL_field_0 2 rfl ?_
  refine z_iconst C (nI 0) dL_field_1 (by decide) ?_
  refine z_aload_n C dL_field_2 0 rfl ?_
  refine z_iload_n C dL_field_3 1 rfl ?_
  refine z_xcallV C F (zX.fr (x_X2_field_e2 l g q a bs wb pd gw hl9 hi.1 j h0 h1) [] [(qo, .inl (zJ g, 1, .inr (.inl fo)))]) (cwV 1 C.ts gL_field_X2_field rfl rfl rfl (by decide +kernel) ⟨Nat.le_of_ble_eq_true rfl, Nat.le_of_ble_eq_true rfl⟩) (zapp_l wB_o) rfl rfl rfl (Nat.le_of_ble_eq_true rfl) dL_field_4 ⟨Nat.le_of_ble_eq_true rfl, Nat.le_of_ble_eq_true rfl⟩ (z_xcatch C [(⟨0, 9, 12, 13⟩ : ExceptionTableEntry)] ⟨0, 9, 15, 15⟩ [] (ht.trans rfl) (List.forall_mem_cons.mpr ⟨Or.inr ⟨by decide, _, (C.w 1 rfl), F.2.1⟩, (fun _ h9 => nomatch h9)⟩) (by decide) (by decide) (C.w 2 rfl) (z_cast C 15 rfl) (fun q9 => ?_))
  refine z_astore_n C dL_field_15 (by decide) [(3, .ref q9), (0, .ref (q 0)), (1, .int (nI j)), (2, .ref qo)] rfl ?_
  refine z_iconst C (nI 2) dL_field_16 (by decide) ?_
  exact z_iretE C dL_field_17 rfl ⟨_, _, ⟨_, _, _, _, rfl, hs⟩, fun h => absurd h (by decide), rfl⟩
theorem w_field (l : Launch) (g : zG) (q : Nat → Nat) (a : zS) (bs : Nat → Int × Nat) (wb pd gw : Nat → Nat → Int) (qo : Nat) (fo : Nat → Int64) {v : Int32} {k : Nat} {a' : zS} (hl9 : l.stackTraces = false) (hi : zInv a) (hs : zSet a bs wb pd gw 0 0) (x1 : Int32) (h : sp_field a x1 k v a') : zMH g l yL_field wsL_field { frames := 8, cells := 1, slots := 6, locals := 132 } [.ref (q 0), .int x1, .ref qo] (wB g q a (zG0 a) bs wb pd gw ++ [(qo, .inl (zJ g, 1, .inr (.inl fo)))]) (zPie (nI k) (zWp g q qo a' k v)) 1 6 := by
  rcases h with ⟨j, h0, h1, rfl, rfl, rfl, rfl⟩ | ⟨h0, rfl, rfl⟩ | ⟨j, h0, h1, rfl, rfl, rfl⟩
  · exact (w_field_0 l g q a bs wb pd gw qo fo hl9 hi hs j h0 h1).wide ⟨Nat.le_of_ble_eq_true rfl, Nat.le_of_ble_eq_true rfl, Nat.le_of_ble_eq_true rfl, Nat.le_of_ble_eq_true rfl⟩ ⟨Nat.le_of_ble_eq_true rfl, Nat.le_of_ble_eq_true rfl⟩
  · exact (w_field_1 l g q a' bs wb pd gw qo fo hl9 hi hs x1 h0 v).wide ⟨Nat.le_of_ble_eq_true rfl, Nat.le_of_ble_eq_true rfl, Nat.le_of_ble_eq_true rfl, Nat.le_of_ble_eq_true rfl⟩ ⟨Nat.le_of_ble_eq_true rfl, Nat.le_of_ble_eq_true rfl⟩
  · exact (w_field_2 l g q a' bs wb pd gw qo fo hl9 hi hs j h0 h1 v).wide ⟨Nat.le_of_ble_eq_true rfl, Nat.le_of_ble_eq_true rfl, Nat.le_of_ble_eq_true rfl, Nat.le_of_ble_eq_true rfl⟩ ⟨Nat.le_of_ble_eq_true rfl, Nat.le_of_ble_eq_true rfl⟩
set_option maxRecDepth 100000 in
set_option maxHeartbeats 4000000 in
theorem w_setReserve_0 (l : Launch) (g : zG) (q : Nat → Nat) (a : zS) (bs : Nat → Int × Nat) (wb pd gw : Nat → Nat → Int) (qo : Nat) (fo : Nat → Int64) (hl9 : l.stackTraces = false) (hi : zInv a) (hs : zSet a bs wb pd gw 0 0) (f : Nat) (j : Nat) (h0 : f < zNf a) (h1 : j ≤ 99) : zMH g l yL_setReserve wsL_setReserve { frames := 31, cells := 0, slots := 0, locals := 822 } [.ref (q 0), .int (nI f), .int (nI j), .ref qo] (wB g q a (zG0 a) bs wb pd gw ++ [(qo, .inl (zJ g, 1, .inr (.inl fo)))]) (zPie (nI 0) (zWp g q qo (zSetRs a f j) 0 (nI (zRs a f)))) 0 0 := by
  refine zMH.of (cc := cL_setReserve) (nL := 5) (ret := (some .int)) (lv := [(0, .ref (q 0)), (1, .int (nI f)), (2, .int (nI j)), (3, .ref qo)]) (by decide) rfl (Nat.le_of_ble_eq_true rfl) rfl ?_
  intro E C0 F ht
  have C : zC g E cL_setReserve RL wsL_setReserve 5 (some .int) := C0
  clear C0
  refine z_aload_n C dL_setReserve_0 3 rfl ?_
  refine z_iconst C (nI 0) dL_setReserve_1 (by decide) ?_
  refine z_aload_n C dL_setReserve_2 0 rfl ?_
  refine z_iload_n C dL_setReserve_3 1 rfl ?_
  refine z_iload_n C dL_setReserve_4 2 rfl ?_
  refine z_callV C (zM.fr (c_X2_setReserve l g q a bs wb pd gw hi hs f j h0 h1) [] [(qo, .inl (zJ g, 1, .inr (.inl fo)))]) (cwV 2 C.ts gL_setReserve_X2_setReserve rfl rfl rfl (by decide +kernel) ⟨Nat.le_of_ble_eq_true rfl, Nat.le_of_ble_eq_true rfl⟩) (zapp_l wB_o) rfl rfl rfl (Nat.le_of_ble_eq_true rfl) dL_setReserve_5 ⟨Nat.zero_le _, Nat.zero_le _⟩ ?_
  rintro _ _ ⟨_, ⟨rfl, bs2, wb2, pd2, gw2, rfl, hs2⟩, rfl⟩
  refine zW.eqw (ws2 := wB g q (zSetRs a f j) (zG0 (zSetRs a f j)) bs2 wb2 pd2 gw2 ++ [(qo, .inl (zJ g, 1, .inr (.inl fo)))]) rfl ?_
  refine z_i2l C dL_setReserve_8 (v := (nI (zRs a f)).toInt64) rfl ?_
  refine z_lastN C 20 rfl (by omega) (by decide) dL_setReserve_9 (zapp_tl rfl) ?_
  refine z_goto C 21 dL_setReserve_10 (by decide) ?_
  refine z_iconst C (nI 0) dL_setReserve_21 (by decide) ?_
  exact z_iretE C dL_setReserve_22 rfl ⟨_, _, ⟨_, _, _, _, rfl, hs2⟩, fun _ => rfl, rfl⟩
set_option maxRecDepth 100000 in
set_option maxHeartbeats 4000000 in
theorem w_setReserve_1 (l : Launch) (g : zG) (q : Nat → Nat) (a : zS) (bs : Nat → Int × Nat) (wb pd gw : Nat → Nat → Int) (qo : Nat) (fo : Nat → Int64) (hl9 : l.stackTraces = false) (hi : zInv a) (hs : zSet a bs wb pd gw 0 0) (x1 : Int32) (x2 : Int32) (h0 : zBad x1 (zNf a)) (v : Int32) : zMH g l yL_setReserve wsL_setReserve { frames := 31, cells := 1, slots := 6, locals := 822 } [.ref (q 0), .int x1, .int x2, .ref qo] (wB g q a (zG0 a) bs wb pd gw ++ [(qo, .inl (zJ g, 1, .inr (.inl fo)))]) (zPie (nI 1) (zWp g q qo a 1 (v))) 1 6 := by
  refine zMH.of (cc := cL_setReserve) (nL := 5) (ret := (some .int)) (lv := [(0, .ref (q 0)), (1, .int x1), (2, .int x2), (3, .ref qo)]) (by decide) rfl (Nat.le_of_ble_eq_true rfl) rfl ?_
  intro E C0 F ht
  have C : zC g E cL_setReserve RL wsL_setReserve 5 (some .int) := C0
  clear C0
  refine z_aload_n C dL_setReserve_0 3 rfl ?_
  refine z_iconst C (nI 0) dL_setReserve_1 (by decide) ?_
  refine z_aload_n C dL_setReserve_2 0 rfl ?_
  refine z_iload_n C dL_setReserve_3 1 rfl ?_
  refine z_iload_n C dL_setReserve_4 2 rfl ?_
  refine z_xcallV C F (zX.fr (x_X2_setReserve_e1 l g q a bs wb pd gw hl9 hi.1 x1 x2 h0) [] [(qo, .inl (zJ g, 1, .inr (.inl fo)))]) (cwV 2 C.ts gL_setReserve_X2_setReserve rfl rfl rfl (by decide +kernel) ⟨Nat.le_of_ble_eq_true rfl, Nat.le_of_ble_eq_true rfl⟩) (zapp_l wB_o) rfl rfl rfl (Nat.le_of_ble_eq_true rfl) dL_setReserve_5 ⟨Nat.le_of_ble_eq_true rfl, Nat.le_of_ble_eq_true rfl⟩ (z_xcatch C [] ⟨0, 10, 13, 21⟩ [⟨0, 10, 17, 13⟩] (ht.trans rfl) (fun _ h9 => nomatch h9) (by decide) (by decide) (C.w 1 rfl) (z_cast C 17 rfl) (fun q9 => ?_))
  refine z_astore C dL_setReserve_13 (by decide) [(4, .ref q9), (0, .ref (q 0)), (1, .int x1), (2, .int x2), (3, .ref qo)] rfl ?_
  refine z_iconst C (nI 1) dL_setReserve_15 (by decide) ?_
  exact z_iretE C dL_setReserve_16 rfl ⟨_, _, ⟨_, _, _, _, rfl, hs⟩, fun h => absurd h (by decide), rfl⟩
set_option maxRecDepth 100000 in
set_option maxHeartbeats 4000000 in
theorem w_setReserve_2 (l : Launch) (g : zG) (q : Nat → Nat) (a : zS) (bs : Nat → Int × Nat) (wb pd gw : Nat → Nat → Int) (qo : Nat) (fo : Nat → Int64) (hl9 : l.stackTraces = false) (hi : zInv a) (hs : zSet a bs wb pd gw 0 0) (f : Nat) (x2 : Int32) (h0 : f < zNf a) (h1 : zBad x2 100) (v : Int32) : zMH g l yL_setReserve wsL_setReserve { frames := 31, cells := 1, slots := 6, locals := 822 } [.ref (q 0), .int (nI f), .int x2, .ref qo] (wB g q a (zG0 a) bs wb pd gw ++ [(qo, .inl (zJ g, 1, .inr (.inl fo)))]) (zPie (nI 2) (zWp g q qo a 2 (v))) 1 6 := by
  refine zMH.of (cc := cL_setReserve) (nL := 5) (ret := (some .int)) (lv := [(0, .ref (q 0)), (1, .int (nI f)), (2, .int x2), (3, .ref qo)]) (by decide) rfl (Nat.le_of_ble_eq_true rfl) rfl ?_
  intro E C0 F ht
  have C : zC g E cL_setReserve RL wsL_setReserve 5 (some .int) := C0
  clear C0
  refine z_aload_n C dL_setReserve_0 3 rfl ?_
  refine z_iconst C (nI 0) dL_setReserve_1 (by decide) ?_
  refine z_aload_n C dL_setReserve_2 0 rfl ?_
  refine z_iload_n C dL_setReserve_3 1 rfl ?_
  refine z_iload_n C dL_setReserve_4 2 rfl ?_
  refine z_xcallV C F (zX.fr (x_X2_setReserve_e2 l g q a bs wb pd gw hl9 hi.1 f x2 h0 h1) [] [(qo, .inl (zJ g, 1, .inr (.inl fo)))]) (cwV 2 C.ts gL_setReserve_X2_setReserve rfl rfl rfl (by decide +kernel) ⟨Nat.le_of_ble_eq_true rfl, Nat.le_of_ble_eq_true rfl⟩) (zapp_l wB_o) rfl rfl rfl (Nat.le_of_ble_eq_true rfl) dL_setReserve_5 ⟨Nat.le_of_ble_eq_true rfl, Nat.le_of_ble_eq_true rfl⟩ (z_xcatch C [(⟨0, 10, 13, 21⟩ : ExceptionTableEntry)] ⟨0, 10, 17, 13⟩ [] (ht.trans rfl) (List.forall_mem_cons.mpr ⟨Or.inr ⟨by decide, _, (C.w 1 rfl), F.2.2.1⟩, (fun _ h9 => nomatch h9)⟩) (by decide) (by decide) (C.w 2 rfl) (z_cast C 16 rfl) (fun q9 => ?_))
  refine z_astore C dL_setReserve_17 (by decide) [(4, .ref q9), (0, .ref (q 0)), (1, .int (nI f)), (2, .int x2), (3, .ref qo)] rfl ?_
  refine z_iconst C (nI 2) dL_setReserve_19 (by decide) ?_
  exact z_iretE C dL_setReserve_20 rfl ⟨_, _, ⟨_, _, _, _, rfl, hs⟩, fun h => absurd h (by decide), rfl⟩
theorem w_setReserve (l : Launch) (g : zG) (q : Nat → Nat) (a : zS) (bs : Nat → Int × Nat) (wb pd gw : Nat → Nat → Int) (qo : Nat) (fo : Nat → Int64) {v : Int32} {k : Nat} {a' : zS} (hl9 : l.stackTraces = false) (hi : zInv a) (hs : zSet a bs wb pd gw 0 0) (x1 x2 : Int32) (h : sp_setReserve a x1 x2 k v a') : zMH g l yL_setReserve wsL_setReserve { frames := 31, cells := 1, slots := 6, locals := 822 } [.ref (q 0), .int x1, .int x2, .ref qo] (wB g q a (zG0 a) bs wb pd gw ++ [(qo, .inl (zJ g, 1, .inr (.inl fo)))]) (zPie (nI k) (zWp g q qo a' k v)) 1 6 := by
  rcases h with ⟨f, j, h0, h1, rfl, rfl, rfl, rfl, rfl⟩ | ⟨h0, rfl, rfl⟩ | ⟨f, h0, h1, rfl, rfl, rfl⟩
  · exact (w_setReserve_0 l g q a bs wb pd gw qo fo hl9 hi hs f j h0 h1).wide ⟨Nat.le_of_ble_eq_true rfl, Nat.le_of_ble_eq_true rfl, Nat.le_of_ble_eq_true rfl, Nat.le_of_ble_eq_true rfl⟩ ⟨Nat.le_of_ble_eq_true rfl, Nat.le_of_ble_eq_true rfl⟩
  · exact (w_setReserve_1 l g q a' bs wb pd gw qo fo hl9 hi hs x1 x2 h0 v).wide ⟨Nat.le_of_ble_eq_true rfl, Nat.le_of_ble_eq_true rfl, Nat.le_of_ble_eq_true rfl, Nat.le_of_ble_eq_true rfl⟩ ⟨Nat.le_of_ble_eq_true rfl, Nat.le_of_ble_eq_true rfl⟩
  · exact (w_setReserve_2 l g q a' bs wb pd gw qo fo hl9 hi hs f x2 h0 h1 v).wide ⟨Nat.le_of_ble_eq_true rfl, Nat.le_of_ble_eq_true rfl, Nat.le_of_ble_eq_true rfl, Nat.le_of_ble_eq_true rfl⟩ ⟨Nat.le_of_ble_eq_true rfl, Nat.le_of_ble_eq_true rfl⟩
set_option maxRecDepth 100000 in
set_option maxHeartbeats 4000000 in
theorem w_join_0 (l : Launch) (g : zG) (q : Nat → Nat) (a : zS) (bs : Nat → Int × Nat) (wb pd gw : Nat → Nat → Int) (qo : Nat) (fo : Nat → Int64) (hl9 : l.stackTraces = false) (hi : zInv a) (hs : zSet a bs wb pd gw 0 0) (h0 : zNd a < 5) : zMH g l yL_join wsL_join { frames := 31, cells := 0, slots := 0, locals := 819 } [.ref (q 0), .ref qo] (wB g q a (zG0 a) bs wb pd gw ++ [(qo, .inl (zJ g, 1, .inr (.inl fo)))]) (zPie (nI 0) (zWp g q qo (zSetNd a (zNd a + 1)) 0 (nI (zNd a)))) 0 0 := by
  refine zMH.of (cc := cL_join) (nL := 3) (ret := (some .int)) (lv := [(0, .ref (q 0)), (1, .ref qo)]) (by decide) rfl (Nat.le_of_ble_eq_true rfl) rfl ?_
  intro E C0 F ht
  have C : zC g E cL_join RL wsL_join 3 (some .int) := C0
  clear C0
  refine z_aload_n C dL_join_0 1 rfl ?_
  refine z_iconst C (nI 0) dL_join_1 (by decide) ?_
  refine z_aload_n C dL_join_2 0 rfl ?_
  refine z_callV C (zM.fr (c_X2_join l g q a bs wb pd gw hi hs h0) [] [(qo, .inl (zJ g, 1, .inr (.inl fo)))]) (cwV 0 C.ts gL_join_X2_join rfl rfl rfl (by decide +kernel) ⟨Nat.le_of_ble_eq_true rfl, Nat.le_of_ble_eq_true rfl⟩) (zapp_l wB_o) rfl rfl rfl (Nat.le_of_ble_eq_true rfl) dL_join_3 ⟨Nat.zero_le _, Nat.zero_le _⟩ ?_
  rintro _ _ ⟨_, ⟨rfl, bs2, wb2, pd2, gw2, rfl, hs2⟩, rfl⟩
  refine zW.eqw (ws2 := wB g q (zSetNd a (zNd a + 1)) (zG0 (zSetNd a (zNd a + 1))) bs2 wb2 pd2 gw2 ++ [(qo, .inl (zJ g, 1, .inr (.inl fo)))]) rfl ?_
  refine z_i2l C dL_join_6 (v := (nI (zNd a)).toInt64) rfl ?_
  refine z_lastN C 20 rfl (by omega) (by decide) dL_join_7 (zapp_tl rfl) ?_
  refine z_goto C 14 dL_join_8 (by decide) ?_
  refine z_iconst C (nI 0) dL_join_14 (by decide) ?_
  exact z_iretE C dL_join_15 rfl ⟨_, _, ⟨_, _, _, _, rfl, hs2⟩, fun _ => rfl, rfl⟩
set_option maxRecDepth 100000 in
set_option maxHeartbeats 4000000 in
theorem w_join_1 (l : Launch) (g : zG) (q : Nat → Nat) (a : zS) (bs : Nat → Int × Nat) (wb pd gw : Nat → Nat → Int) (qo : Nat) (fo : Nat → Int64) (hl9 : l.stackTraces = false) (hi : zInv a) (hs : zSet a bs wb pd gw 0 0) (h0 : zNd a = 5) (v : Int32) : zMH g l yL_join wsL_join { frames := 31, cells := 1, slots := 6, locals := 819 } [.ref (q 0), .ref qo] (wB g q a (zG0 a) bs wb pd gw ++ [(qo, .inl (zJ g, 1, .inr (.inl fo)))]) (zPie (nI 1) (zWp g q qo a 1 (v))) 1 6 := by
  refine zMH.of (cc := cL_join) (nL := 3) (ret := (some .int)) (lv := [(0, .ref (q 0)), (1, .ref qo)]) (by decide) rfl (Nat.le_of_ble_eq_true rfl) rfl ?_
  intro E C0 F ht
  have C : zC g E cL_join RL wsL_join 3 (some .int) := C0
  clear C0
  refine z_aload_n C dL_join_0 1 rfl ?_
  refine z_iconst C (nI 0) dL_join_1 (by decide) ?_
  refine z_aload_n C dL_join_2 0 rfl ?_
  refine z_xcallV C F (zX.fr (x_X2_join_e1 l g q a bs wb pd gw hl9 hi.1 h0) [] [(qo, .inl (zJ g, 1, .inr (.inl fo)))]) (cwV 0 C.ts gL_join_X2_join rfl rfl rfl (by decide +kernel) ⟨Nat.le_of_ble_eq_true rfl, Nat.le_of_ble_eq_true rfl⟩) (zapp_l wB_o) rfl rfl rfl (Nat.le_of_ble_eq_true rfl) dL_join_3 ⟨Nat.le_of_ble_eq_true rfl, Nat.le_of_ble_eq_true rfl⟩ (z_xcatch C [] ⟨0, 8, 11, 15⟩ [] (ht.trans rfl) (fun _ h9 => nomatch h9) (by decide) (by decide) (C.w 1 rfl) (z_cast C 15 rfl) (fun q9 => ?_))
  refine z_astore_n C dL_join_11 (by decide) [(2, .ref q9), (0, .ref (q 0)), (1, .ref qo)] rfl ?_
  refine z_iconst C (nI 1) dL_join_12 (by decide) ?_
  exact z_iretE C dL_join_13 rfl ⟨_, _, ⟨_, _, _, _, rfl, hs⟩, fun h => absurd h (by decide), rfl⟩
theorem w_join (l : Launch) (g : zG) (q : Nat → Nat) (a : zS) (bs : Nat → Int × Nat) (wb pd gw : Nat → Nat → Int) (qo : Nat) (fo : Nat → Int64) {v : Int32} {k : Nat} {a' : zS} (hl9 : l.stackTraces = false) (hi : zInv a) (hs : zSet a bs wb pd gw 0 0) (h : sp_join a  k v a') : zMH g l yL_join wsL_join { frames := 31, cells := 1, slots := 6, locals := 819 } [.ref (q 0), .ref qo] (wB g q a (zG0 a) bs wb pd gw ++ [(qo, .inl (zJ g, 1, .inr (.inl fo)))]) (zPie (nI k) (zWp g q qo a' k v)) 1 6 := by
  rcases h with ⟨h0, rfl, rfl, rfl⟩ | ⟨h0, rfl, rfl⟩
  · exact (w_join_0 l g q a bs wb pd gw qo fo hl9 hi hs h0).wide ⟨Nat.le_of_ble_eq_true rfl, Nat.le_of_ble_eq_true rfl, Nat.le_of_ble_eq_true rfl, Nat.le_of_ble_eq_true rfl⟩ ⟨Nat.le_of_ble_eq_true rfl, Nat.le_of_ble_eq_true rfl⟩
  · exact (w_join_1 l g q a' bs wb pd gw qo fo hl9 hi hs h0 v).wide ⟨Nat.le_of_ble_eq_true rfl, Nat.le_of_ble_eq_true rfl, Nat.le_of_ble_eq_true rfl, Nat.le_of_ble_eq_true rfl⟩ ⟨Nat.le_of_ble_eq_true rfl, Nat.le_of_ble_eq_true rfl⟩
set_option maxRecDepth 100000 in
set_option maxHeartbeats 4000000 in
theorem w_setIn_0 (l : Launch) (g : zG) (q : Nat → Nat) (a : zS) (bs : Nat → Int × Nat) (wb pd gw : Nat → Nat → Int) (qo : Nat) (fo : Nat → Int64) (hl9 : l.stackTraces = false) (hi : zInv a) (hs : zSet a bs wb pd gw 0 0) (d : Nat) (b : Bool) (h0 : d < zNd a) : zMH g l yL_setIn wsL_setIn { frames := 31, cells := 0, slots := 0, locals := 821 } [.ref (q 0), .int (nI d), .int (bI b), .ref qo] (wB g q a (zG0 a) bs wb pd gw ++ [(qo, .inl (zJ g, 1, .inr (.inl fo)))]) (zPie (nI 0) (zWp g q qo (zSetOu a (zOuIn (zOu a) d b)) 0 (bI (zIn a d)))) 0 0 := by
  refine zMH.of (cc := cL_setIn) (nL := 5) (ret := (some .int)) (lv := [(0, .ref (q 0)), (1, .int (nI d)), (2, .int (bI b)), (3, .ref qo)]) (by decide) rfl (Nat.le_of_ble_eq_true rfl) rfl ?_
  intro E C0 F ht
  have C : zC g E cL_setIn RL wsL_setIn 5 (some .int) := C0
  clear C0
  refine z_aload_n C dL_setIn_0 3 rfl ?_
  refine z_iconst C (nI 0) dL_setIn_1 (by decide) ?_
  refine z_aload_n C dL_setIn_2 0 rfl ?_
  refine z_iload_n C dL_setIn_3 1 rfl ?_
  refine z_iload_n C dL_setIn_4 2 rfl ?_
  refine z_callV C (zM.fr (c_X2_setIn l g q a bs wb pd gw hi hs d h0 b) [] [(qo, .inl (zJ g, 1, .inr (.inl fo)))]) (cwV 2 C.ts gL_setIn_X2_setIn rfl rfl rfl (by decide +kernel) ⟨Nat.le_of_ble_eq_true rfl, Nat.le_of_ble_eq_true rfl⟩) (zapp_l wB_o) rfl rfl rfl (Nat.le_of_ble_eq_true rfl) dL_setIn_5 ⟨Nat.zero_le _, Nat.zero_le _⟩ ?_
  rintro _ _ ⟨_, ⟨rfl, bs2, wb2, pd2, gw2, rfl, hs2⟩, rfl⟩
  refine zW.eqw (ws2 := wB g q (zSetOu a (zOuIn (zOu a) d b)) (zG0 (zSetOu a (zOuIn (zOu a) d b))) bs2 wb2 pd2 gw2 ++ [(qo, .inl (zJ g, 1, .inr (.inl fo)))]) rfl ?_
  refine z_if_eq C 15 dL_setIn_8 (by decide) (zeq_B0 _) (fun c_8 => ?_) (fun c_8 => ?_)
  · skip
    refine z_lconst C (0) dL_setIn_15 (by decide) ?_
    refine z_lastN C 20 rfl (by omega) (by decide) dL_setIn_16 (zapp_tl rfl) ?_
    refine z_goto C 24 dL_setIn_17 (by decide) ?_
    refine z_iconst C (nI 0) dL_setIn_24 (by decide) ?_
    exact z_iretE C dL_setIn_25 rfl ⟨_, _, ⟨_, _, _, _, rfl, hs2⟩, fun _ => by first | (rw [c_8]; rfl) | (rw [eq_true_of_ne_false c_8]; rfl), rfl⟩
  · skip
    refine z_lconst C (1) dL_setIn_11 (by decide) ?_
    refine z_goto C 16 dL_setIn_12 (by decide) ?_
    refine z_lastN C 20 rfl (by omega) (by decide) dL_setIn_16 (zapp_tl rfl) ?_
    refine z_goto C 24 dL_setIn_17 (by decide) ?_
    refine z_iconst C (nI 0) dL_setIn_24 (by decide) ?_
    exact z_iretE C dL_setIn_25 rfl ⟨_, _, ⟨_, _, _, _, rfl, hs2⟩, fun _ => by first | (rw [c_8]; rfl) | (rw [eq_true_of_ne_false c_8]; rfl), rfl⟩
set_option maxRecDepth 100000 in
set_option maxHeartbeats 4000000 in
theorem w_setIn_1 (l : Launch) (g : zG) (q : Nat → Nat) (a : zS) (bs : Nat → Int × Nat) (wb pd gw : Nat → Nat → Int) (qo : Nat) (fo : Nat → Int64) (hl9 : l.stackTraces = false) (hi : zInv a) (hs : zSet a bs wb pd gw 0 0) (x1 : Int32) (x2 : Int32) (h0 : zBad x1 (zNd a)) (v : Int32) : zMH g l yL_setIn wsL_setIn { frames := 31, cells := 1, slots := 6, locals := 821 } [.ref (q 0), .int x1, .int x2, .ref qo] (wB g q a (zG0 a) bs wb pd gw ++ [(qo, .inl (zJ g, 1, .inr (.inl fo)))]) (zPie (nI 1) (zWp g q qo a 1 (v))) 1 6 := by
  refine zMH.of (cc := cL_setIn) (nL := 5) (ret := (some .int)) (lv := [(0, .ref (q 0)), (1, .int x1), (2, .int x2), (3, .ref qo)]) (by decide) rfl (Nat.le_of_ble_eq_true rfl) rfl ?_
  intro E C0 F ht
  have C : zC g E cL_setIn RL wsL_setIn 5 (some .int) := C0
  clear C0
  refine z_aload_n C dL_setIn_0 3 rfl ?_
  refine z_iconst C (nI 0) dL_setIn_1 (by decide) ?_
  refine z_aload_n C dL_setIn_2 0 rfl ?_
  refine z_iload_n C dL_setIn_3 1 rfl ?_
  refine z_iload_n C dL_setIn_4 2 rfl ?_
  refine z_xcallV C F (zX.fr (x_X2_setIn_e1 l g q a bs wb pd gw hl9 hi.1 x1 x2 h0) [] [(qo, .inl (zJ g, 1, .inr (.inl fo)))]) (cwV 2 C.ts gL_setIn_X2_setIn rfl rfl rfl (by decide +kernel) ⟨Nat.le_of_ble_eq_true rfl, Nat.le_of_ble_eq_true rfl⟩) (zapp_l wB_o) rfl rfl rfl (Nat.le_of_ble_eq_true rfl) dL_setIn_5 ⟨Nat.le_of_ble_eq_true rfl, Nat.le_of_ble_eq_true rfl⟩ (z_xcatch C [] ⟨0, 17, 20, 21⟩ [] (ht.trans rfl) (fun _ h9 => nomatch h9) (by decide) (by decide) (C.w 1 rfl) (z_cast C 17 rfl) (fun q9 => ?_))
  refine z_astore C dL_setIn_20 (by decide) [(4, .ref q9), (0, .ref (q 0)), (1, .int x1), (2, .int x2), (3, .ref qo)] rfl ?_
  refine z_iconst C (nI 1) dL_setIn_22 (by decide) ?_
  exact z_iretE C dL_setIn_23 rfl ⟨_, _, ⟨_, _, _, _, rfl, hs⟩, fun h => absurd h (by decide), rfl⟩
theorem w_setIn (l : Launch) (g : zG) (q : Nat → Nat) (a : zS) (bs : Nat → Int × Nat) (wb pd gw : Nat → Nat → Int) (qo : Nat) (fo : Nat → Int64) {v : Int32} {k : Nat} {a' : zS} (hl9 : l.stackTraces = false) (hi : zInv a) (hs : zSet a bs wb pd gw 0 0) (x1 x2 : Int32) (h : sp_setIn a x1 x2 k v a') : zMH g l yL_setIn wsL_setIn { frames := 31, cells := 1, slots := 6, locals := 821 } [.ref (q 0), .int x1, .int x2, .ref qo] (wB g q a (zG0 a) bs wb pd gw ++ [(qo, .inl (zJ g, 1, .inr (.inl fo)))]) (zPie (nI k) (zWp g q qo a' k v)) 1 6 := by
  rcases h with ⟨d, b, h0, rfl, rfl, rfl, rfl, rfl⟩ | ⟨h0, rfl, rfl⟩
  · exact (w_setIn_0 l g q a bs wb pd gw qo fo hl9 hi hs d b h0).wide ⟨Nat.le_of_ble_eq_true rfl, Nat.le_of_ble_eq_true rfl, Nat.le_of_ble_eq_true rfl, Nat.le_of_ble_eq_true rfl⟩ ⟨Nat.le_of_ble_eq_true rfl, Nat.le_of_ble_eq_true rfl⟩
  · exact (w_setIn_1 l g q a' bs wb pd gw qo fo hl9 hi hs x1 x2 h0 v).wide ⟨Nat.le_of_ble_eq_true rfl, Nat.le_of_ble_eq_true rfl, Nat.le_of_ble_eq_true rfl, Nat.le_of_ble_eq_true rfl⟩ ⟨Nat.le_of_ble_eq_true rfl, Nat.le_of_ble_eq_true rfl⟩
set_option maxRecDepth 100000 in
set_option maxHeartbeats 4000000 in
theorem w_bid_0 (l : Launch) (g : zG) (q : Nat → Nat) (a : zS) (bs : Nat → Int × Nat) (wb pd gw : Nat → Nat → Int) (qo : Nat) (fo : Nat → Int64) (hl9 : l.stackTraces = false) (hi : zInv a) (hs : zSet a bs wb pd gw 0 0) (d : Nat) (m : Nat) (j : Nat) (h0 : d < zNd a) (h1 : 0 < m) (h2 : m < 2 ^ zNf a) (h3 : j ≤ 999) (h4 : zNb a < 12) : zMH g l yL_bid wsL_bid { frames := 31, cells := 0, slots := 0, locals := 822 } [.ref (q 0), .int (nI d), .int (nI m), .int (nI j), .ref qo] (wB g q a (zG0 a) bs wb pd gw ++ [(qo, .inl (zJ g, 1, .inr (.inl fo)))]) (zPie (nI 0) (zWp g q qo (zBid a d m j) 0 (nI (zNb a)))) 0 0 := by
  refine zMH.of (cc := cL_bid) (nL := 6) (ret := (some .int)) (lv := [(0, .ref (q 0)), (1, .int (nI d)), (2, .int (nI m)), (3, .int (nI j)), (4, .ref qo)]) (by decide) rfl (Nat.le_of_ble_eq_true rfl) rfl ?_
  intro E C0 F ht
  have C : zC g E cL_bid RL wsL_bid 6 (some .int) := C0
  clear C0
  refine z_aload C dL_bid_0 4 rfl ?_
  refine z_iconst C (nI 0) dL_bid_2 (by decide) ?_
  refine z_aload_n C dL_bid_3 0 rfl ?_
  refine z_iload_n C dL_bid_4 1 rfl ?_
  refine z_iload_n C dL_bid_5 2 rfl ?_
  refine z_iload_n C dL_bid_6 3 rfl ?_
  refine z_callV C (zM.fr (c_X2_bid l g q a bs wb pd gw hi hs d m j h0 h1 h2 h3 h4) [] [(qo, .inl (zJ g, 1, .inr (.inl fo)))]) (cwV 3 C.ts gL_bid_X2_bid rfl rfl rfl (by decide +kernel) ⟨Nat.le_of_ble_eq_true rfl, Nat.le_of_ble_eq_true rfl⟩) (zapp_l wB_o) rfl rfl rfl (Nat.le_of_ble_eq_true rfl) dL_bid_7 ⟨Nat.zero_le _, Nat.zero_le _⟩ ?_
  rintro _ _ ⟨_, ⟨rfl, bs2, wb2, pd2, gw2, rfl, hs2⟩, rfl⟩
  refine zW.eqw (ws2 := wB g q (zBid a d m j) (zG0 (zBid a d m j)) bs2 wb2 pd2 gw2 ++ [(qo, .inl (zJ g, 1, .inr (.inl fo)))]) rfl ?_
  refine z_i2l C dL_bid_10 (v := (nI (zNb a)).toInt64) rfl ?_
  refine z_lastN C 20 rfl (by omega) (by decide) dL_bid_11 (zapp_tl rfl) ?_
  refine z_goto C 27 dL_bid_12 (by decide) ?_
  refine z_iconst C (nI 0) dL_bid_27 (by decide) ?_
  exact z_iretE C dL_bid_28 rfl ⟨_, _, ⟨_, _, _, _, rfl, hs2⟩, fun _ => rfl, rfl⟩
set_option maxRecDepth 100000 in
set_option maxHeartbeats 4000000 in
theorem w_bid_1 (l : Launch) (g : zG) (q : Nat → Nat) (a : zS) (bs : Nat → Int × Nat) (wb pd gw : Nat → Nat → Int) (qo : Nat) (fo : Nat → Int64) (hl9 : l.stackTraces = false) (hi : zInv a) (hs : zSet a bs wb pd gw 0 0) (x1 : Int32) (x2 : Int32) (x3 : Int32) (h0 : zBad x1 (zNd a)) (v : Int32) : zMH g l yL_bid wsL_bid { frames := 31, cells := 1, slots := 6, locals := 822 } [.ref (q 0), .int x1, .int x2, .int x3, .ref qo] (wB g q a (zG0 a) bs wb pd gw ++ [(qo, .inl (zJ g, 1, .inr (.inl fo)))]) (zPie (nI 1) (zWp g q qo a 1 (v))) 1 6 := by
  refine zMH.of (cc := cL_bid) (nL := 6) (ret := (some .int)) (lv := [(0, .ref (q 0)), (1, .int x1), (2, .int x2), (3, .int x3), (4, .ref qo)]) (by decide) rfl (Nat.le_of_ble_eq_true rfl) rfl ?_
  intro E C0 F ht
  have C : zC g E cL_bid RL wsL_bid 6 (some .int) := C0
  clear C0
  refine z_aload C dL_bid_0 4 rfl ?_
  refine z_iconst C (nI 0) dL_bid_2 (by decide) ?_
  refine z_aload_n C dL_bid_3 0 rfl ?_
  refine z_iload_n C dL_bid_4 1 rfl ?_
  refine z_iload_n C dL_bid_5 2 rfl ?_
  refine z_iload_n C dL_bid_6 3 rfl ?_
  refine z_xcallV C F (zX.fr (x_X2_bid_e1 l g q a bs wb pd gw hl9 hi.1 x1 x2 x3 h0) [] [(qo, .inl (zJ g, 1, .inr (.inl fo)))]) (cwV 3 C.ts gL_bid_X2_bid rfl rfl rfl (by decide +kernel) ⟨Nat.le_of_ble_eq_true rfl, Nat.le_of_ble_eq_true rfl⟩) (zapp_l wB_o) rfl rfl rfl (Nat.le_of_ble_eq_true rfl) dL_bid_7 ⟨Nat.le_of_ble_eq_true rfl, Nat.le_of_ble_eq_true rfl⟩ (z_xcatch C [] ⟨0, 12, 15, 21⟩ [⟨0, 12, 19, 13⟩, ⟨0, 12, 23, 15⟩] (ht.trans rfl) (fun _ h9 => nomatch h9) (by decide) (by decide) (C.w 1 rfl) (z_cast C 17 rfl) (fun q9 => ?_))
  refine z_astore C dL_bid_15 (by decide) [(5, .ref q9), (0, .ref (q 0)), (1, .int x1), (2, .int x2), (3, .int x3), (4, .ref qo)] rfl ?_
  refine z_iconst C (nI 1) dL_bid_17 (by decide) ?_
  exact z_iretE C dL_bid_18 rfl ⟨_, _, ⟨_, _, _, _, rfl, hs⟩, fun h => absurd h (by decide), rfl⟩
set_option maxRecDepth 100000 in
set_option maxHeartbeats 4000000 in
theorem w_bid_2 (l : Launch) (g : zG) (q : Nat → Nat) (a : zS) (bs : Nat → Int × Nat) (wb pd gw : Nat → Nat → Int) (qo : Nat) (fo : Nat → Int64) (hl9 : l.stackTraces = false) (hi : zInv a) (hs : zSet a bs wb pd gw 0 0) (d : Nat) (x2 : Int32) (x3 : Int32) (h0 : d < zNd a) (h1 : zBadM x2 (zNf a)) (v : Int32) : zMH g l yL_bid wsL_bid { frames := 31, cells := 1, slots := 6, locals := 822 } [.ref (q 0), .int (nI d), .int x2, .int x3, .ref qo] (wB g q a (zG0 a) bs wb pd gw ++ [(qo, .inl (zJ g, 1, .inr (.inl fo)))]) (zPie (nI 2) (zWp g q qo a 2 (v))) 1 6 := by
  refine zMH.of (cc := cL_bid) (nL := 6) (ret := (some .int)) (lv := [(0, .ref (q 0)), (1, .int (nI d)), (2, .int x2), (3, .int x3), (4, .ref qo)]) (by decide) rfl (Nat.le_of_ble_eq_true rfl) rfl ?_
  intro E C0 F ht
  have C : zC g E cL_bid RL wsL_bid 6 (some .int) := C0
  clear C0
  refine z_aload C dL_bid_0 4 rfl ?_
  refine z_iconst C (nI 0) dL_bid_2 (by decide) ?_
  refine z_aload_n C dL_bid_3 0 rfl ?_
  refine z_iload_n C dL_bid_4 1 rfl ?_
  refine z_iload_n C dL_bid_5 2 rfl ?_
  refine z_iload_n C dL_bid_6 3 rfl ?_
  refine z_xcallV C F (zX.fr (x_X2_bid_e2 l g q a bs wb pd gw hl9 hi.1 d x2 x3 h0 h1) [] [(qo, .inl (zJ g, 1, .inr (.inl fo)))]) (cwV 3 C.ts gL_bid_X2_bid rfl rfl rfl (by decide +kernel) ⟨Nat.le_of_ble_eq_true rfl, Nat.le_of_ble_eq_true rfl⟩) (zapp_l wB_o) rfl rfl rfl (Nat.le_of_ble_eq_true rfl) dL_bid_7 ⟨Nat.le_of_ble_eq_true rfl, Nat.le_of_ble_eq_true rfl⟩ (z_xcatch C [(⟨0, 12, 15, 21⟩ : ExceptionTableEntry)] ⟨0, 12, 19, 13⟩ [⟨0, 12, 23, 15⟩] (ht.trans rfl) (List.forall_mem_cons.mpr ⟨Or.inr ⟨by decide, _, (C.w 1 rfl), F.2.2.1⟩, (fun _ h9 => nomatch h9)⟩) (by decide) (by decide) (C.w 2 rfl) (z_cast C 16 rfl) (fun q9 => ?_))
  refine z_astore C dL_bid_19 (by decide) [(5, .ref q9), (0, .ref (q 0)), (1, .int (nI d)), (2, .int x2), (3, .int x3), (4, .ref qo)] rfl ?_
  refine z_iconst C (nI 2) dL_bid_21 (by decide) ?_
  exact z_iretE C dL_bid_22 rfl ⟨_, _, ⟨_, _, _, _, rfl, hs⟩, fun h => absurd h (by decide), rfl⟩
set_option maxRecDepth 100000 in
set_option maxHeartbeats 4000000 in
theorem w_bid_3 (l : Launch) (g : zG) (q : Nat → Nat) (a : zS) (bs : Nat → Int × Nat) (wb pd gw : Nat → Nat → Int) (qo : Nat) (fo : Nat → Int64) (hl9 : l.stackTraces = false) (hi : zInv a) (hs : zSet a bs wb pd gw 0 0) (d : Nat) (m : Nat) (x3 : Int32) (h0 : d < zNd a) (h1 : 0 < m) (h2 : m < 2 ^ zNf a) (h3 : zBad x3 1000) (v : Int32) : zMH g l yL_bid wsL_bid { frames := 31, cells := 1, slots := 6, locals := 822 } [.ref (q 0), .int (nI d), .int (nI m), .int x3, .ref qo] (wB g q a (zG0 a) bs wb pd gw ++ [(qo, .inl (zJ g, 1, .inr (.inl fo)))]) (zPie (nI 2) (zWp g q qo a 2 (v))) 1 6 := by
  refine zMH.of (cc := cL_bid) (nL := 6) (ret := (some .int)) (lv := [(0, .ref (q 0)), (1, .int (nI d)), (2, .int (nI m)), (3, .int x3), (4, .ref qo)]) (by decide) rfl (Nat.le_of_ble_eq_true rfl) rfl ?_
  intro E C0 F ht
  have C : zC g E cL_bid RL wsL_bid 6 (some .int) := C0
  clear C0
  refine z_aload C dL_bid_0 4 rfl ?_
  refine z_iconst C (nI 0) dL_bid_2 (by decide) ?_
  refine z_aload_n C dL_bid_3 0 rfl ?_
  refine z_iload_n C dL_bid_4 1 rfl ?_
  refine z_iload_n C dL_bid_5 2 rfl ?_
  refine z_iload_n C dL_bid_6 3 rfl ?_
  refine z_xcallV C F (zX.fr (x_X2_bid_e3 l g q a bs wb pd gw hl9 hi.1 d m x3 h0 h1 h2 h3) [] [(qo, .inl (zJ g, 1, .inr (.inl fo)))]) (cwV 3 C.ts gL_bid_X2_bid rfl rfl rfl (by decide +kernel) ⟨Nat.le_of_ble_eq_true rfl, Nat.le_of_ble_eq_true rfl⟩) (zapp_l wB_o) rfl rfl rfl (Nat.le_of_ble_eq_true rfl) dL_bid_7 ⟨Nat.le_of_ble_eq_true rfl, Nat.le_of_ble_eq_true rfl⟩ (z_xcatch C [(⟨0, 12, 15, 21⟩ : ExceptionTableEntry)] ⟨0, 12, 19, 13⟩ [⟨0, 12, 23, 15⟩] (ht.trans rfl) (List.forall_mem_cons.mpr ⟨Or.inr ⟨by decide, _, (C.w 1 rfl), F.2.2.1⟩, (fun _ h9 => nomatch h9)⟩) (by decide) (by decide) (C.w 2 rfl) (z_cast C 16 rfl) (fun q9 => ?_))
  refine z_astore C dL_bid_19 (by decide) [(5, .ref q9), (0, .ref (q 0)), (1, .int (nI d)), (2, .int (nI m)), (3, .int x3), (4, .ref qo)] rfl ?_
  refine z_iconst C (nI 2) dL_bid_21 (by decide) ?_
  exact z_iretE C dL_bid_22 rfl ⟨_, _, ⟨_, _, _, _, rfl, hs⟩, fun h => absurd h (by decide), rfl⟩
set_option maxRecDepth 100000 in
set_option maxHeartbeats 4000000 in
theorem w_bid_4 (l : Launch) (g : zG) (q : Nat → Nat) (a : zS) (bs : Nat → Int × Nat) (wb pd gw : Nat → Nat → Int) (qo : Nat) (fo : Nat → Int64) (hl9 : l.stackTraces = false) (hi : zInv a) (hs : zSet a bs wb pd gw 0 0) (d : Nat) (m : Nat) (j : Nat) (h0 : d < zNd a) (h1 : 0 < m) (h2 : m < 2 ^ zNf a) (h3 : j ≤ 999) (h4 : zNb a = 12) (v : Int32) : zMH g l yL_bid wsL_bid { frames := 31, cells := 1, slots := 6, locals := 822 } [.ref (q 0), .int (nI d), .int (nI m), .int (nI j), .ref qo] (wB g q a (zG0 a) bs wb pd gw ++ [(qo, .inl (zJ g, 1, .inr (.inl fo)))]) (zPie (nI 3) (zWp g q qo a 3 (v))) 1 6 := by
  refine zMH.of (cc := cL_bid) (nL := 6) (ret := (some .int)) (lv := [(0, .ref (q 0)), (1, .int (nI d)), (2, .int (nI m)), (3, .int (nI j)), (4, .ref qo)]) (by decide) rfl (Nat.le_of_ble_eq_true rfl) rfl ?_
  intro E C0 F ht
  have C : zC g E cL_bid RL wsL_bid 6 (some .int) := C0
  clear C0
  refine z_aload C dL_bid_0 4 rfl ?_
  refine z_iconst C (nI 0) dL_bid_2 (by decide) ?_
  refine z_aload_n C dL_bid_3 0 rfl ?_
  refine z_iload_n C dL_bid_4 1 rfl ?_
  refine z_iload_n C dL_bid_5 2 rfl ?_
  refine z_iload_n C dL_bid_6 3 rfl ?_
  refine z_xcallV C F (zX.fr (x_X2_bid_e4 l g q a bs wb pd gw hl9 hi.1 d m j h0 h1 h2 h3 h4) [] [(qo, .inl (zJ g, 1, .inr (.inl fo)))]) (cwV 3 C.ts gL_bid_X2_bid rfl rfl rfl (by decide +kernel) ⟨Nat.le_of_ble_eq_true rfl, Nat.le_of_ble_eq_true rfl⟩) (zapp_l wB_o) rfl rfl rfl (Nat.le_of_ble_eq_true rfl) dL_bid_7 ⟨Nat.le_of_ble_eq_true rfl, Nat.le_of_ble_eq_true rfl⟩ (z_xcatch C [(⟨0, 12, 15, 21⟩ : ExceptionTableEntry), (⟨0, 12, 19, 13⟩ : ExceptionTableEntry)] ⟨0, 12, 23, 15⟩ [] (ht.trans rfl) (List.forall_mem_cons.mpr ⟨Or.inr ⟨by decide, _, (C.w 1 rfl), F.2.2.2.1⟩, (List.forall_mem_cons.mpr ⟨Or.inr ⟨by decide, _, (C.w 2 rfl), F.2.1⟩, (fun _ h9 => nomatch h9)⟩)⟩) (by decide) (by decide) (C.w 3 rfl) (z_cast C 15 rfl) (fun q9 => ?_))
  refine z_astore C dL_bid_23 (by decide) [(5, .ref q9), (0, .ref (q 0)), (1, .int (nI d)), (2, .int (nI m)), (3, .int (nI j)), (4, .ref qo)] rfl ?_
  refine z_iconst C (nI 3) dL_bid_25 (by decide) ?_
  exact z_iretE C dL_bid_26 rfl ⟨_, _, ⟨_, _, _, _, rfl, hs⟩, fun h => absurd h (by decide), rfl⟩
theorem w_bid (l : Launch) (g : zG) (q : Nat → Nat) (a : zS) (bs : Nat → Int × Nat) (wb pd gw : Nat → Nat → Int) (qo : Nat) (fo : Nat → Int64) {v : Int32} {k : Nat} {a' : zS} (hl9 : l.stackTraces = false) (hi : zInv a) (hs : zSet a bs wb pd gw 0 0) (x1 x2 x3 : Int32) (h : sp_bid a x1 x2 x3 k v a') : zMH g l yL_bid wsL_bid { frames := 31, cells := 1, slots := 6, locals := 822 } [.ref (q 0), .int x1, .int x2, .int x3, .ref qo] (wB g q a (zG0 a) bs wb pd gw ++ [(qo, .inl (zJ g, 1, .inr (.inl fo)))]) (zPie (nI k) (zWp g q qo a' k v)) 1 6 := by
  rcases h with ⟨d, m, j, h0, h1, h2, h3, h4, rfl, rfl, rfl, rfl, rfl, rfl⟩ | ⟨h0, rfl, rfl⟩ | ⟨d, h0, h1, rfl, rfl, rfl⟩ | ⟨d, m, h0, h1, h2, h3, rfl, rfl, rfl, rfl⟩ | ⟨d, m, j, h0, h1, h2, h3, h4, rfl, rfl, rfl, rfl, rfl⟩
  · exact (w_bid_0 l g q a bs wb pd gw qo fo hl9 hi hs d m j h0 h1 h2 h3 h4).wide ⟨Nat.le_of_ble_eq_true rfl, Nat.le_of_ble_eq_true rfl, Nat.le_of_ble_eq_true rfl, Nat.le_of_ble_eq_true rfl⟩ ⟨Nat.le_of_ble_eq_true rfl, Nat.le_of_ble_eq_true rfl⟩
  · exact (w_bid_1 l g q a' bs wb pd gw qo fo hl9 hi hs x1 x2 x3 h0 v).wide ⟨Nat.le_of_ble_eq_true rfl, Nat.le_of_ble_eq_true rfl, Nat.le_of_ble_eq_true rfl, Nat.le_of_ble_eq_true rfl⟩ ⟨Nat.le_of_ble_eq_true rfl, Nat.le_of_ble_eq_true rfl⟩
  · exact (w_bid_2 l g q a' bs wb pd gw qo fo hl9 hi hs d x2 x3 h0 h1 v).wide ⟨Nat.le_of_ble_eq_true rfl, Nat.le_of_ble_eq_true rfl, Nat.le_of_ble_eq_true rfl, Nat.le_of_ble_eq_true rfl⟩ ⟨Nat.le_of_ble_eq_true rfl, Nat.le_of_ble_eq_true rfl⟩
  · exact (w_bid_3 l g q a' bs wb pd gw qo fo hl9 hi hs d m x3 h0 h1 h2 h3 v).wide ⟨Nat.le_of_ble_eq_true rfl, Nat.le_of_ble_eq_true rfl, Nat.le_of_ble_eq_true rfl, Nat.le_of_ble_eq_true rfl⟩ ⟨Nat.le_of_ble_eq_true rfl, Nat.le_of_ble_eq_true rfl⟩
  · exact (w_bid_4 l g q a' bs wb pd gw qo fo hl9 hi hs d m j h0 h1 h2 h3 h4 v).wide ⟨Nat.le_of_ble_eq_true rfl, Nat.le_of_ble_eq_true rfl, Nat.le_of_ble_eq_true rfl, Nat.le_of_ble_eq_true rfl⟩ ⟨Nat.le_of_ble_eq_true rfl, Nat.le_of_ble_eq_true rfl⟩
set_option maxRecDepth 100000 in
set_option maxHeartbeats 4000000 in
theorem w_setPrice_0 (l : Launch) (g : zG) (q : Nat → Nat) (a : zS) (bs : Nat → Int × Nat) (wb pd gw : Nat → Nat → Int) (qo : Nat) (fo : Nat → Int64) (hl9 : l.stackTraces = false) (hi : zInv a) (hs : zSet a bs wb pd gw 0 0) (b : Nat) (j : Nat) (h0 : b < zNb a) (h1 : j ≤ 999) : zMH g l yL_setPrice wsL_setPrice { frames := 31, cells := 0, slots := 0, locals := 821 } [.ref (q 0), .int (nI b), .int (nI j), .ref qo] (wB g q a (zG0 a) bs wb pd gw ++ [(qo, .inl (zJ g, 1, .inr (.inl fo)))]) (zPie (nI 0) (zWp g q qo (zSetPr a b j) 0 (nI (zPr a b)))) 0 0 := by
  refine zMH.of (cc := cL_setPrice) (nL := 5) (ret := (some .int)) (lv := [(0, .ref (q 0)), (1, .int (nI b)), (2, .int (nI j)), (3, .ref qo)]) (by decide) rfl (Nat.le_of_ble_eq_true rfl) rfl ?_
  intro E C0 F ht
  have C : zC g E cL_setPrice RL wsL_setPrice 5 (some .int) := C0
  clear C0
  refine z_aload_n C dL_setPrice_0 3 rfl ?_
  refine z_iconst C (nI 0) dL_setPrice_1 (by decide) ?_
  refine z_aload_n C dL_setPrice_2 0 rfl ?_
  refine z_iload_n C dL_setPrice_3 1 rfl ?_
  refine z_iload_n C dL_setPrice_4 2 rfl ?_
  refine z_callV C (zM.fr (c_X2_setPrice l g q a bs wb pd gw hi hs b j h0 h1) [] [(qo, .inl (zJ g, 1, .inr (.inl fo)))]) (cwV 2 C.ts gL_setPrice_X2_setPrice rfl rfl rfl (by decide +kernel) ⟨Nat.le_of_ble_eq_true rfl, Nat.le_of_ble_eq_true rfl⟩) (zapp_l wB_o) rfl rfl rfl (Nat.le_of_ble_eq_true rfl) dL_setPrice_5 ⟨Nat.zero_le _, Nat.zero_le _⟩ ?_
  rintro _ _ ⟨_, ⟨rfl, bs2, wb2, pd2, gw2, rfl, hs2⟩, rfl⟩
  refine zW.eqw (ws2 := wB g q (zSetPr a b j) (zG0 (zSetPr a b j)) bs2 wb2 pd2 gw2 ++ [(qo, .inl (zJ g, 1, .inr (.inl fo)))]) rfl ?_
  refine z_i2l C dL_setPrice_8 (v := (nI (zPr a b)).toInt64) rfl ?_
  refine z_lastN C 20 rfl (by omega) (by decide) dL_setPrice_9 (zapp_tl rfl) ?_
  refine z_goto C 21 dL_setPrice_10 (by decide) ?_
  refine z_iconst C (nI 0) dL_setPrice_21 (by decide) ?_
  exact z_iretE C dL_setPrice_22 rfl ⟨_, _, ⟨_, _, _, _, rfl, hs2⟩, fun _ => rfl, rfl⟩
set_option maxRecDepth 100000 in
set_option maxHeartbeats 4000000 in
theorem w_setPrice_1 (l : Launch) (g : zG) (q : Nat → Nat) (a : zS) (bs : Nat → Int × Nat) (wb pd gw : Nat → Nat → Int) (qo : Nat) (fo : Nat → Int64) (hl9 : l.stackTraces = false) (hi : zInv a) (hs : zSet a bs wb pd gw 0 0) (x1 : Int32) (x2 : Int32) (h0 : zBad x1 (zNb a)) (v : Int32) : zMH g l yL_setPrice wsL_setPrice { frames := 31, cells := 1, slots := 6, locals := 821 } [.ref (q 0), .int x1, .int x2, .ref qo] (wB g q a (zG0 a) bs wb pd gw ++ [(qo, .inl (zJ g, 1, .inr (.inl fo)))]) (zPie (nI 1) (zWp g q qo a 1 (v))) 1 6 := by
  refine zMH.of (cc := cL_setPrice) (nL := 5) (ret := (some .int)) (lv := [(0, .ref (q 0)), (1, .int x1), (2, .int x2), (3, .ref qo)]) (by decide) rfl (Nat.le_of_ble_eq_true rfl) rfl ?_
  intro E C0 F ht
  have C : zC g E cL_setPrice RL wsL_setPrice 5 (some .int) := C0
  clear C0
  refine z_aload_n C dL_setPrice_0 3 rfl ?_
  refine z_iconst C (nI 0) dL_setPrice_1 (by decide) ?_
  refine z_aload_n C dL_setPrice_2 0 rfl ?_
  refine z_iload_n C dL_setPrice_3 1 rfl ?_
  refine z_iload_n C dL_setPrice_4 2 rfl ?_
  refine z_xcallV C F (zX.fr (x_X2_setPrice_e1 l g q a bs wb pd gw hl9 hi.1 x1 x2 h0) [] [(qo, .inl (zJ g, 1, .inr (.inl fo)))]) (cwV 2 C.ts gL_setPrice_X2_setPrice rfl rfl rfl (by decide +kernel) ⟨Nat.le_of_ble_eq_true rfl, Nat.le_of_ble_eq_true rfl⟩) (zapp_l wB_o) rfl rfl rfl (Nat.le_of_ble_eq_true rfl) dL_setPrice_5 ⟨Nat.le_of_ble_eq_true rfl, Nat.le_of_ble_eq_true rfl⟩ (z_xcatch C [] ⟨0, 10, 13, 21⟩ [⟨0, 10, 17, 13⟩] (ht.trans rfl) (fun _ h9 => nomatch h9) (by decide) (by decide) (C.w 1 rfl) (z_cast C 17 rfl) (fun q9 => ?_))
  refine z_astore C dL_setPrice_13 (by decide) [(4, .ref q9), (0, .ref (q 0)), (1, .int x1), (2, .int x2), (3, .ref qo)] rfl ?_
  refine z_iconst C (nI 1) dL_setPrice_15 (by decide) ?_
  exact z_iretE C dL_setPrice_16 rfl ⟨_, _, ⟨_, _, _, _, rfl, hs⟩, fun h => absurd h (by decide), rfl⟩
set_option maxRecDepth 100000 in
set_option maxHeartbeats 4000000 in
theorem w_setPrice_2 (l : Launch) (g : zG) (q : Nat → Nat) (a : zS) (bs : Nat → Int × Nat) (wb pd gw : Nat → Nat → Int) (qo : Nat) (fo : Nat → Int64) (hl9 : l.stackTraces = false) (hi : zInv a) (hs : zSet a bs wb pd gw 0 0) (b : Nat) (x2 : Int32) (h0 : b < zNb a) (h1 : zBad x2 1000) (v : Int32) : zMH g l yL_setPrice wsL_setPrice { frames := 31, cells := 1, slots := 6, locals := 821 } [.ref (q 0), .int (nI b), .int x2, .ref qo] (wB g q a (zG0 a) bs wb pd gw ++ [(qo, .inl (zJ g, 1, .inr (.inl fo)))]) (zPie (nI 2) (zWp g q qo a 2 (v))) 1 6 := by
  refine zMH.of (cc := cL_setPrice) (nL := 5) (ret := (some .int)) (lv := [(0, .ref (q 0)), (1, .int (nI b)), (2, .int x2), (3, .ref qo)]) (by decide) rfl (Nat.le_of_ble_eq_true rfl) rfl ?_
  intro E C0 F ht
  have C : zC g E cL_setPrice RL wsL_setPrice 5 (some .int) := C0
  clear C0
  refine z_aload_n C dL_setPrice_0 3 rfl ?_
  refine z_iconst C (nI 0) dL_setPrice_1 (by decide) ?_
  refine z_aload_n C dL_setPrice_2 0 rfl ?_
  refine z_iload_n C dL_setPrice_3 1 rfl ?_
  refine z_iload_n C dL_setPrice_4 2 rfl ?_
  refine z_xcallV C F (zX.fr (x_X2_setPrice_e2 l g q a bs wb pd gw hl9 hi.1 b x2 h0 h1) [] [(qo, .inl (zJ g, 1, .inr (.inl fo)))]) (cwV 2 C.ts gL_setPrice_X2_setPrice rfl rfl rfl (by decide +kernel) ⟨Nat.le_of_ble_eq_true rfl, Nat.le_of_ble_eq_true rfl⟩) (zapp_l wB_o) rfl rfl rfl (Nat.le_of_ble_eq_true rfl) dL_setPrice_5 ⟨Nat.le_of_ble_eq_true rfl, Nat.le_of_ble_eq_true rfl⟩ (z_xcatch C [(⟨0, 10, 13, 21⟩ : ExceptionTableEntry)] ⟨0, 10, 17, 13⟩ [] (ht.trans rfl) (List.forall_mem_cons.mpr ⟨Or.inr ⟨by decide, _, (C.w 1 rfl), F.2.2.1⟩, (fun _ h9 => nomatch h9)⟩) (by decide) (by decide) (C.w 2 rfl) (z_cast C 16 rfl) (fun q9 => ?_))
  refine z_astore C dL_setPrice_17 (by decide) [(4, .ref q9), (0, .ref (q 0)), (1, .int (nI b)), (2, .int x2), (3, .ref qo)] rfl ?_
  refine z_iconst C (nI 2) dL_setPrice_19 (by decide) ?_
  exact z_iretE C dL_setPrice_20 rfl ⟨_, _, ⟨_, _, _, _, rfl, hs⟩, fun h => absurd h (by decide), rfl⟩
theorem w_setPrice (l : Launch) (g : zG) (q : Nat → Nat) (a : zS) (bs : Nat → Int × Nat) (wb pd gw : Nat → Nat → Int) (qo : Nat) (fo : Nat → Int64) {v : Int32} {k : Nat} {a' : zS} (hl9 : l.stackTraces = false) (hi : zInv a) (hs : zSet a bs wb pd gw 0 0) (x1 x2 : Int32) (h : sp_setPrice a x1 x2 k v a') : zMH g l yL_setPrice wsL_setPrice { frames := 31, cells := 1, slots := 6, locals := 821 } [.ref (q 0), .int x1, .int x2, .ref qo] (wB g q a (zG0 a) bs wb pd gw ++ [(qo, .inl (zJ g, 1, .inr (.inl fo)))]) (zPie (nI k) (zWp g q qo a' k v)) 1 6 := by
  rcases h with ⟨b, j, h0, h1, rfl, rfl, rfl, rfl, rfl⟩ | ⟨h0, rfl, rfl⟩ | ⟨b, h0, h1, rfl, rfl, rfl⟩
  · exact (w_setPrice_0 l g q a bs wb pd gw qo fo hl9 hi hs b j h0 h1).wide ⟨Nat.le_of_ble_eq_true rfl, Nat.le_of_ble_eq_true rfl, Nat.le_of_ble_eq_true rfl, Nat.le_of_ble_eq_true rfl⟩ ⟨Nat.le_of_ble_eq_true rfl, Nat.le_of_ble_eq_true rfl⟩
  · exact (w_setPrice_1 l g q a' bs wb pd gw qo fo hl9 hi hs x1 x2 h0 v).wide ⟨Nat.le_of_ble_eq_true rfl, Nat.le_of_ble_eq_true rfl, Nat.le_of_ble_eq_true rfl, Nat.le_of_ble_eq_true rfl⟩ ⟨Nat.le_of_ble_eq_true rfl, Nat.le_of_ble_eq_true rfl⟩
  · exact (w_setPrice_2 l g q a' bs wb pd gw qo fo hl9 hi hs b x2 h0 h1 v).wide ⟨Nat.le_of_ble_eq_true rfl, Nat.le_of_ble_eq_true rfl, Nat.le_of_ble_eq_true rfl, Nat.le_of_ble_eq_true rfl⟩ ⟨Nat.le_of_ble_eq_true rfl, Nat.le_of_ble_eq_true rfl⟩
set_option maxRecDepth 100000 in
set_option maxHeartbeats 4000000 in
theorem w_setWorth_0 (l : Launch) (g : zG) (q : Nat → Nat) (a : zS) (bs : Nat → Int × Nat) (wb pd gw : Nat → Nat → Int) (qo : Nat) (fo : Nat → Int64) (hl9 : l.stackTraces = false) (hi : zInv a) (hs : zSet a bs wb pd gw 0 0) (b : Nat) (j : Nat) (h0 : b < zNb a) (h1 : j ≤ 999) : zMH g l yL_setWorth wsL_setWorth { frames := 8, cells := 0, slots := 0, locals := 134 } [.ref (q 0), .int (nI b), .int (nI j), .ref qo] (wB g q a (zG0 a) bs wb pd gw ++ [(qo, .inl (zJ g, 1, .inr (.inl fo)))]) (zPie (nI 0) (zWp g q qo (zSetWo a b j) 0 (nI (zWo a b)))) 0 0 := by
  refine zMH.of (cc := cL_setWorth) (nL := 5) (ret := (some .int)) (lv := [(0, .ref (q 0)), (1, .int (nI b)), (2, .int (nI j)), (3, .ref qo)]) (by decide) rfl (Nat.le_of_ble_eq_true rfl) rfl ?_
  intro E C0 F ht
  have C : zC g E cL_setWorth RL wsL_setWorth 5 (some .int) := C0
  clear C0
  refine z_aload_n C dL_setWorth_0 3 rfl ?_
  refine z_iconst C (nI 0) dL_setWorth_1 (by decide) ?_
  refine z_aload_n C dL_setWorth_2 0 rfl ?_
  refine z_iload_n C dL_setWorth_3 1 rfl ?_
  refine z_iload_n C dL_setWorth_4 2 rfl ?_
  refine z_callV C (zM.fr (c_X2_setWorth l g q a bs wb pd gw hi hs b j h0 h1) [] [(qo, .inl (zJ g, 1, .inr (.inl fo)))]) (cwV 2 C.ts gL_setWorth_X2_setWorth rfl rfl rfl (by decide +kernel) ⟨Nat.le_of_ble_eq_true rfl, Nat.le_of_ble_eq_true rfl⟩) (zapp_l wB_o) rfl rfl rfl (Nat.le_of_ble_eq_true rfl) dL_setWorth_5 ⟨Nat.zero_le _, Nat.zero_le _⟩ ?_
  rintro _ _ ⟨_, ⟨rfl, bs2, wb2, pd2, gw2, rfl, hs2⟩, rfl⟩
  refine zW.eqw (ws2 := wB g q (zSetWo a b j) (zG0 (zSetWo a b j)) bs2 wb2 pd2 gw2 ++ [(qo, .inl (zJ g, 1, .inr (.inl fo)))]) rfl ?_
  refine z_i2l C dL_setWorth_8 (v := (nI (zWo a b)).toInt64) rfl ?_
  refine z_lastN C 20 rfl (by omega) (by decide) dL_setWorth_9 (zapp_tl rfl) ?_
  refine z_goto C 21 dL_setWorth_10 (by decide) ?_
  refine z_iconst C (nI 0) dL_setWorth_21 (by decide) ?_
  exact z_iretE C dL_setWorth_22 rfl ⟨_, _, ⟨_, _, _, _, rfl, hs2⟩, fun _ => rfl, rfl⟩
set_option maxRecDepth 100000 in
set_option maxHeartbeats 4000000 in
theorem w_setWorth_1 (l : Launch) (g : zG) (q : Nat → Nat) (a : zS) (bs : Nat → Int × Nat) (wb pd gw : Nat → Nat → Int) (qo : Nat) (fo : Nat → Int64) (hl9 : l.stackTraces = false) (hi : zInv a) (hs : zSet a bs wb pd gw 0 0) (x1 : Int32) (x2 : Int32) (h0 : zBad x1 (zNb a)) (v : Int32) : zMH g l yL_setWorth wsL_setWorth { frames := 8, cells := 1, slots := 6, locals := 134 } [.ref (q 0), .int x1, .int x2, .ref qo] (wB g q a (zG0 a) bs wb pd gw ++ [(qo, .inl (zJ g, 1, .inr (.inl fo)))]) (zPie (nI 1) (zWp g q qo a 1 (v))) 1 6 := by
  refine zMH.of (cc := cL_setWorth) (nL := 5) (ret := (some .int)) (lv := [(0, .ref (q 0)), (1, .int x1), (2, .int x2), (3, .ref qo)]) (by decide) rfl (Nat.le_of_ble_eq_true rfl) rfl ?_
  intro E C0 F ht
  have C : zC g E cL_setWorth RL wsL_setWorth 5 (some .int) := C0
  clear C0
  refine z_aload_n C dL_setWorth_0 3 rfl ?_
  refine z_iconst C (nI 0) dL_setWorth_1 (by decide) ?_
  refine z_aload_n C dL_setWorth_2 0 rfl ?_
  refine z_iload_n C dL_setWorth_3 1 rfl ?_
  refine z_iload_n C dL_setWorth_4 2 rfl ?_
  refine z_xcallV C F (zX.fr (x_X2_setWorth_e1 l g q a bs wb pd gw hl9 hi.1 x1 x2 h0) [] [(qo, .inl (zJ g, 1, .inr (.inl fo)))]) (cwV 2 C.ts gL_setWorth_X2_setWorth rfl rfl rfl (by decide +kernel) ⟨Nat.le_of_ble_eq_true rfl, Nat.le_of_ble_eq_true rfl⟩) (zapp_l wB_o) rfl rfl rfl (Nat.le_of_ble_eq_true rfl) dL_setWorth_5 ⟨Nat.le_of_ble_eq_true rfl, Nat.le_of_ble_eq_true rfl⟩ (z_xcatch C [] ⟨0, 10, 13, 21⟩ [⟨0, 10, 17, 13⟩] (ht.trans rfl) (fun _ h9 => nomatch h9) (by decide) (by decide) (C.w 1 rfl) (z_cast C 17 rfl) (fun q9 => ?_))
  refine z_astore C dL_setWorth_13 (by decide) [(4, .ref q9), (0, .ref (q 0)), (1, .int x1), (2, .int x2), (3, .ref qo)] rfl ?_
  refine z_iconst C (nI 1) dL_setWorth_15 (by decide) ?_
  exact z_iretE C dL_setWorth_16 rfl ⟨_, _, ⟨_, _, _, _, rfl, hs⟩, fun h => absurd h (by decide), rfl⟩
set_option maxRecDepth 100000 in
set_option maxHeartbeats 4000000 in
theorem w_setWorth_2 (l : Launch) (g : zG) (q : Nat → Nat) (a : zS) (bs : Nat → Int × Nat) (wb pd gw : Nat → Nat → Int) (qo : Nat) (fo : Nat → Int64) (hl9 : l.stackTraces = false) (hi : zInv a) (hs : zSet a bs wb pd gw 0 0) (b : Nat) (x2 : Int32) (h0 : b < zNb a) (h1 : zBad x2 1000) (v : Int32) : zMH g l yL_setWorth wsL_setWorth { frames := 8, cells := 1, slots := 6, locals := 134 } [.ref (q 0), .int (nI b), .int x2, .ref qo] (wB g q a (zG0 a) bs wb pd gw ++ [(qo, .inl (zJ g, 1, .inr (.inl fo)))]) (zPie (nI 2) (zWp g q qo a 2 (v))) 1 6 := by
  refine zMH.of (cc := cL_setWorth) (nL := 5) (ret := (some .int)) (lv := [(0, .ref (q 0)), (1, .int (nI b)), (2, .int x2), (3, .ref qo)]) (by decide) rfl (Nat.le_of_ble_eq_true rfl) rfl ?_
  intro E C0 F ht
  have C : zC g E cL_setWorth RL wsL_setWorth 5 (some .int) := C0
  clear C0
  refine z_aload_n C dL_setWorth_0 3 rfl ?_
  refine z_iconst C (nI 0) dL_setWorth_1 (by decide) ?_
  refine z_aload_n C dL_setWorth_2 0 rfl ?_
  refine z_iload_n C dL_setWorth_3 1 rfl ?_
  refine z_iload_n C dL_setWorth_4 2 rfl ?_
  refine z_xcallV C F (zX.fr (x_X2_setWorth_e2 l g q a bs wb pd gw hl9 hi.1 b x2 h0 h1) [] [(qo, .inl (zJ g, 1, .inr (.inl fo)))]) (cwV 2 C.ts gL_setWorth_X2_setWorth rfl rfl rfl (by decide +kernel) ⟨Nat.le_of_ble_eq_true rfl, Nat.le_of_ble_eq_true rfl⟩) (zapp_l wB_o) rfl rfl rfl (Nat.le_of_ble_eq_true rfl) dL_setWorth_5 ⟨Nat.le_of_ble_eq_true rfl, Nat.le_of_ble_eq_true rfl⟩ (z_xcatch C [(⟨0, 10, 13, 21⟩ : ExceptionTableEntry)] ⟨0, 10, 17, 13⟩ [] (ht.trans rfl) (List.forall_mem_cons.mpr ⟨Or.inr ⟨by decide, _, (C.w 1 rfl), F.2.2.1⟩, (fun _ h9 => nomatch h9)⟩) (by decide) (by decide) (C.w 2 rfl) (z_cast C 16 rfl) (fun q9 => ?_))
  refine z_astore C dL_setWorth_17 (by decide) [(4, .ref q9), (0, .ref (q 0)), (1, .int (nI b)), (2, .int x2), (3, .ref qo)] rfl ?_
  refine z_iconst C (nI 2) dL_setWorth_19 (by decide) ?_
  exact z_iretE C dL_setWorth_20 rfl ⟨_, _, ⟨_, _, _, _, rfl, hs⟩, fun h => absurd h (by decide), rfl⟩
theorem w_setWorth (l : Launch) (g : zG) (q : Nat → Nat) (a : zS) (bs : Nat → Int × Nat) (wb pd gw : Nat → Nat → Int) (qo : Nat) (fo : Nat → Int64) {v : Int32} {k : Nat} {a' : zS} (hl9 : l.stackTraces = false) (hi : zInv a) (hs : zSet a bs wb pd gw 0 0) (x1 x2 : Int32) (h : sp_setWorth a x1 x2 k v a') : zMH g l yL_setWorth wsL_setWorth { frames := 8, cells := 1, slots := 6, locals := 134 } [.ref (q 0), .int x1, .int x2, .ref qo] (wB g q a (zG0 a) bs wb pd gw ++ [(qo, .inl (zJ g, 1, .inr (.inl fo)))]) (zPie (nI k) (zWp g q qo a' k v)) 1 6 := by
  rcases h with ⟨b, j, h0, h1, rfl, rfl, rfl, rfl, rfl⟩ | ⟨h0, rfl, rfl⟩ | ⟨b, h0, h1, rfl, rfl, rfl⟩
  · exact (w_setWorth_0 l g q a bs wb pd gw qo fo hl9 hi hs b j h0 h1).wide ⟨Nat.le_of_ble_eq_true rfl, Nat.le_of_ble_eq_true rfl, Nat.le_of_ble_eq_true rfl, Nat.le_of_ble_eq_true rfl⟩ ⟨Nat.le_of_ble_eq_true rfl, Nat.le_of_ble_eq_true rfl⟩
  · exact (w_setWorth_1 l g q a' bs wb pd gw qo fo hl9 hi hs x1 x2 h0 v).wide ⟨Nat.le_of_ble_eq_true rfl, Nat.le_of_ble_eq_true rfl, Nat.le_of_ble_eq_true rfl, Nat.le_of_ble_eq_true rfl⟩ ⟨Nat.le_of_ble_eq_true rfl, Nat.le_of_ble_eq_true rfl⟩
  · exact (w_setWorth_2 l g q a' bs wb pd gw qo fo hl9 hi hs b x2 h0 h1 v).wide ⟨Nat.le_of_ble_eq_true rfl, Nat.le_of_ble_eq_true rfl, Nat.le_of_ble_eq_true rfl, Nat.le_of_ble_eq_true rfl⟩ ⟨Nat.le_of_ble_eq_true rfl, Nat.le_of_ble_eq_true rfl⟩
set_option maxRecDepth 100000 in
set_option maxHeartbeats 4000000 in
theorem w_withdraw_0 (l : Launch) (g : zG) (q : Nat → Nat) (a : zS) (bs : Nat → Int × Nat) (wb pd gw : Nat → Nat → Int) (qo : Nat) (fo : Nat → Int64) (hl9 : l.stackTraces = false) (hi : zInv a) (hs : zSet a bs wb pd gw 0 0) (b : Nat) (h0 : b < zNb a) (h1 : zGo a b = 0) : zMH g l yL_withdraw wsL_withdraw { frames := 31, cells := 0, slots := 0, locals := 819 } [.ref (q 0), .int (nI b), .ref qo] (wB g q a (zG0 a) bs wb pd gw ++ [(qo, .inl (zJ g, 1, .inr (.inl fo)))]) (zPie (nI 0) (zWp g q qo (zSetGo a b 1) 0 (nI (zSum (zLof (zSetGo a b 1)) (zNd a))))) 0 0 := by
  refine zMH.of (cc := cL_withdraw) (nL := 4) (ret := (some .int)) (lv := [(0, .ref (q 0)), (1, .int (nI b)), (2, .ref qo)]) (by decide) rfl (Nat.le_of_ble_eq_true rfl) rfl ?_
  intro E C0 F ht
  have C : zC g E cL_withdraw RL wsL_withdraw 4 (some .int) := C0
  clear C0
  refine z_aload_n C dL_withdraw_0 2 rfl ?_
  refine z_iconst C (nI 0) dL_withdraw_1 (by decide) ?_
  refine z_aload_n C dL_withdraw_2 0 rfl ?_
  refine z_iload_n C dL_withdraw_3 1 rfl ?_
  refine z_callV C (zM.fr (c_X2_withdraw l g q a bs wb pd gw hi hs b h0 h1) [] [(qo, .inl (zJ g, 1, .inr (.inl fo)))]) (cwV 1 C.ts gL_withdraw_X2_withdraw rfl rfl rfl (by decide +kernel) ⟨Nat.le_of_ble_eq_true rfl, Nat.le_of_ble_eq_true rfl⟩) (zapp_l wB_o) rfl rfl rfl (Nat.le_of_ble_eq_true rfl) dL_withdraw_4 ⟨Nat.zero_le _, Nat.zero_le _⟩ ?_
  rintro _ _ ⟨_, ⟨rfl, bs2, wb2, pd2, gw2, rfl, hs2⟩, rfl⟩
  refine zW.eqw (ws2 := wB g q (zSetGo a b 1) (zG0 (zSetGo a b 1)) bs2 wb2 pd2 gw2 ++ [(qo, .inl (zJ g, 1, .inr (.inl fo)))]) rfl ?_
  refine z_i2l C dL_withdraw_7 (v := (nI (zSum (zLof (zSetGo a b 1)) (zNd a))).toInt64) rfl ?_
  refine z_lastN C 20 rfl (by omega) (by decide) dL_withdraw_8 (zapp_tl rfl) ?_
  refine z_goto C 18 dL_withdraw_9 (by decide) ?_
  refine z_iconst C (nI 0) dL_withdraw_18 (by decide) ?_
  exact z_iretE C dL_withdraw_19 rfl ⟨_, _, ⟨_, _, _, _, rfl, hs2⟩, fun _ => rfl, rfl⟩
set_option maxRecDepth 100000 in
set_option maxHeartbeats 4000000 in
theorem w_withdraw_1 (l : Launch) (g : zG) (q : Nat → Nat) (a : zS) (bs : Nat → Int × Nat) (wb pd gw : Nat → Nat → Int) (qo : Nat) (fo : Nat → Int64) (hl9 : l.stackTraces = false) (hi : zInv a) (hs : zSet a bs wb pd gw 0 0) (x1 : Int32) (h0 : zBad x1 (zNb a)) (v : Int32) : zMH g l yL_withdraw wsL_withdraw { frames := 31, cells := 1, slots := 6, locals := 819 } [.ref (q 0), .int x1, .ref qo] (wB g q a (zG0 a) bs wb pd gw ++ [(qo, .inl (zJ g, 1, .inr (.inl fo)))]) (zPie (nI 1) (zWp g q qo a 1 (v))) 1 6 := by
  refine zMH.of (cc := cL_withdraw) (nL := 4) (ret := (some .int)) (lv := [(0, .ref (q 0)), (1, .int x1), (2, .ref qo)]) (by decide) rfl (Nat.le_of_ble_eq_true rfl) rfl ?_
  intro E C0 F ht
  have C : zC g E cL_withdraw RL wsL_withdraw 4 (some .int) := C0
  clear C0
  refine z_aload_n C dL_withdraw_0 2 rfl ?_
  refine z_iconst C (nI 0) dL_withdraw_1 (by decide) ?_
  refine z_aload_n C dL_withdraw_2 0 rfl ?_
  refine z_iload_n C dL_withdraw_3 1 rfl ?_
  refine z_xcallV C F (zX.fr (x_X2_withdraw_e1 l g q a bs wb pd gw hl9 hi.1 x1 h0) [] [(qo, .inl (zJ g, 1, .inr (.inl fo)))]) (cwV 1 C.ts gL_withdraw_X2_withdraw rfl rfl rfl (by decide +kernel) ⟨Nat.le_of_ble_eq_true rfl, Nat.le_of_ble_eq_true rfl⟩) (zapp_l wB_o) rfl rfl rfl (Nat.le_of_ble_eq_true rfl) dL_withdraw_4 ⟨Nat.le_of_ble_eq_true rfl, Nat.le_of_ble_eq_true rfl⟩ (z_xcatch C [] ⟨0, 9, 12, 21⟩ [⟨0, 9, 15, 15⟩] (ht.trans rfl) (fun _ h9 => nomatch h9) (by decide) (by decide) (C.w 1 rfl) (z_cast C 17 rfl) (fun q9 => ?_))
  refine z_astore_n C dL_withdraw_12 (by decide) [(3, .ref q9), (0, .ref (q 0)), (1, .int x1), (2, .ref qo)] rfl ?_
  refine z_iconst C (nI 1) dL_withdraw_13 (by decide) ?_
  exact z_iretE C dL_withdraw_14 rfl ⟨_, _, ⟨_, _, _, _, rfl, hs⟩, fun h => absurd h (by decide), rfl⟩
set_option maxRecDepth 100000 in
set_option maxHeartbeats 4000000 in
theorem w_withdraw_2 (l : Launch) (g : zG) (q : Nat → Nat) (a : zS) (bs : Nat → Int × Nat) (wb pd gw : Nat → Nat → Int) (qo : Nat) (fo : Nat → Int64) (hl9 : l.stackTraces = false) (hi : zInv a) (hs : zSet a bs wb pd gw 0 0) (b : Nat) (h0 : b < zNb a) (h1 : ¬ zGo a b = 0) (v : Int32) : zMH g l yL_withdraw wsL_withdraw { frames := 31, cells := 1, slots := 6, locals := 819 } [.ref (q 0), .int (nI b), .ref qo] (wB g q a (zG0 a) bs wb pd gw ++ [(qo, .inl (zJ g, 1, .inr (.inl fo)))]) (zPie (nI 2) (zWp g q qo a 2 (v))) 1 6 := by
  refine zMH.of (cc := cL_withdraw) (nL := 4) (ret := (some .int)) (lv := [(0, .ref (q 0)), (1, .int (nI b)), (2, .ref qo)]) (by decide) rfl (Nat.le_of_ble_eq_true rfl) rfl ?_
  intro E C0 F ht
  have C : zC g E cL_withdraw RL wsL_withdraw 4 (some .int) := C0
  clear C0
  refine z_aload_n C dL_withdraw_0 2 rfl ?_
  refine z_iconst C (nI 0) dL_withdraw_1 (by decide) ?_
  refine z_aload_n C dL_withdraw_2 0 rfl ?_
  refine z_iload_n C dL_withdraw_3 1 rfl ?_
  refine z_xcallV C F (zX.fr (x_X2_withdraw_e2 l g q a bs wb pd gw hl9 hi.1 b h0 h1) [] [(qo, .inl (zJ g, 1, .inr (.inl fo)))]) (cwV 1 C.ts gL_withdraw_X2_withdraw rfl rfl rfl (by decide +kernel) ⟨Nat.le_of_ble_eq_true rfl, Nat.le_of_ble_eq_true rfl⟩) (zapp_l wB_o) rfl rfl rfl (Nat.le_of_ble_eq_true rfl) dL_withdraw_4 ⟨Nat.le_of_ble_eq_true rfl, Nat.le_of_ble_eq_true rfl⟩ (z_xcatch C [(⟨0, 9, 12, 21⟩ : ExceptionTableEntry)] ⟨0, 9, 15, 15⟩ [] (ht.trans rfl) (List.forall_mem_cons.mpr ⟨Or.inr ⟨by decide, _, (C.w 1 rfl), F.2.2.2.1⟩, (fun _ h9 => nomatch h9)⟩) (by decide) (by decide) (C.w 2 rfl) (z_cast C 15 rfl) (fun q9 => ?_))
  refine z_astore_n C dL_withdraw_15 (by decide) [(3, .ref q9), (0, .ref (q 0)), (1, .int (nI b)), (2, .ref qo)] rfl ?_
  refine z_iconst C (nI 2) dL_withdraw_16 (by decide) ?_
  exact z_iretE C dL_withdraw_17 rfl ⟨_, _, ⟨_, _, _, _, rfl, hs⟩, fun h => absurd h (by decide), rfl⟩
theorem w_withdraw (l : Launch) (g : zG) (q : Nat → Nat) (a : zS) (bs : Nat → Int × Nat) (wb pd gw : Nat → Nat → Int) (qo : Nat) (fo : Nat → Int64) {v : Int32} {k : Nat} {a' : zS} (hl9 : l.stackTraces = false) (hi : zInv a) (hs : zSet a bs wb pd gw 0 0) (x1 : Int32) (h : sp_withdraw a x1 k v a') : zMH g l yL_withdraw wsL_withdraw { frames := 31, cells := 1, slots := 6, locals := 819 } [.ref (q 0), .int x1, .ref qo] (wB g q a (zG0 a) bs wb pd gw ++ [(qo, .inl (zJ g, 1, .inr (.inl fo)))]) (zPie (nI k) (zWp g q qo a' k v)) 1 6 := by
  rcases h with ⟨b, h0, h1, rfl, rfl, rfl, rfl⟩ | ⟨h0, rfl, rfl⟩ | ⟨b, h0, h1, rfl, rfl, rfl⟩
  · exact (w_withdraw_0 l g q a bs wb pd gw qo fo hl9 hi hs b h0 h1).wide ⟨Nat.le_of_ble_eq_true rfl, Nat.le_of_ble_eq_true rfl, Nat.le_of_ble_eq_true rfl, Nat.le_of_ble_eq_true rfl⟩ ⟨Nat.le_of_ble_eq_true rfl, Nat.le_of_ble_eq_true rfl⟩
  · exact (w_withdraw_1 l g q a' bs wb pd gw qo fo hl9 hi hs x1 h0 v).wide ⟨Nat.le_of_ble_eq_true rfl, Nat.le_of_ble_eq_true rfl, Nat.le_of_ble_eq_true rfl, Nat.le_of_ble_eq_true rfl⟩ ⟨Nat.le_of_ble_eq_true rfl, Nat.le_of_ble_eq_true rfl⟩
  · exact (w_withdraw_2 l g q a' bs wb pd gw qo fo hl9 hi hs b h0 h1 v).wide ⟨Nat.le_of_ble_eq_true rfl, Nat.le_of_ble_eq_true rfl, Nat.le_of_ble_eq_true rfl, Nat.le_of_ble_eq_true rfl⟩ ⟨Nat.le_of_ble_eq_true rfl, Nat.le_of_ble_eq_true rfl⟩
set_option maxRecDepth 100000 in
set_option maxHeartbeats 4000000 in
theorem w_told_0 (l : Launch) (g : zG) (q : Nat → Nat) (a : zS) (bs : Nat → Int × Nat) (wb pd gw : Nat → Nat → Int) (qo : Nat) (fo : Nat → Int64) (hl9 : l.stackTraces = false) (hi : zInv a) (hs : zSet a bs wb pd gw 0 0) (b : Nat) (w : Nat) (h0 : b < zNb a) (h1 : w ≤ 7) : zMH g l yL_told wsL_told { frames := 8, cells := 0, slots := 0, locals := 133 } [.ref (q 0), .int (nI b), .int (nI w), .ref qo] (wB g q a (zG0 a) bs wb pd gw ++ [(qo, .inl (zJ g, 1, .inr (.inl fo)))]) (zPie (nI 0) (zWp g q qo a 0 (iZ (aTold a b w)))) 0 0 := by
  refine zMH.of (cc := cL_told) (nL := 5) (ret := (some .int)) (lv := [(0, .ref (q 0)), (1, .int (nI b)), (2, .int (nI w)), (3, .ref qo)]) (by decide) rfl (Nat.le_of_ble_eq_true rfl) rfl ?_
  intro E C0 F ht
  have C : zC g E cL_told RL wsL_told 5 (some .int) := C0
  clear C0
  refine z_aload_n C dL_told_0 3 rfl ?_
  refine z_iconst C (nI 0) dL_told_1 (by decide) ?_
  refine z_aload_n C dL_told_2 0 rfl ?_
  refine z_iload_n C dL_told_3 1 rfl ?_
  refine z_iload_n C dL_told_4 2 rfl ?_
  refine z_callV C (zM.fr (c_X2_told l g q a bs wb pd gw hi.1 hs b w h0 h1) [] [(qo, .inl (zJ g, 1, .inr (.inl fo)))]) (cwV 2 C.ts gL_told_X2_told rfl rfl rfl (by decide +kernel) ⟨Nat.le_of_ble_eq_true rfl, Nat.le_of_ble_eq_true rfl⟩) (zapp_l wB_o) rfl rfl rfl (Nat.le_of_ble_eq_true rfl) dL_told_5 ⟨Nat.zero_le _, Nat.zero_le _⟩ ?_
  rintro _ _ ⟨_, ⟨rfl, rfl⟩, rfl⟩
  have hs2 := hs
  refine zW.eqw (ws2 := wB g q a (zG0 a) bs wb pd gw ++ [(qo, .inl (zJ g, 1, .inr (.inl fo)))]) rfl ?_
  refine z_i2l C dL_told_8 (v := (iZ (aTold a b w)).toInt64) rfl ?_
  refine z_lastN C 20 rfl (by omega) (by decide) dL_told_9 (zapp_tl rfl) ?_
  refine z_goto C 17 dL_told_10 (by decide) ?_
  refine z_iconst C (nI 0) dL_told_17 (by decide) ?_
  exact z_iretE C dL_told_18 rfl ⟨_, _, ⟨_, _, _, _, rfl, hs2⟩, fun _ => rfl, rfl⟩
set_option maxRecDepth 100000 in
set_option maxHeartbeats 4000000 in
theorem w_told_1 (l : Launch) (g : zG) (q : Nat → Nat) (a : zS) (bs : Nat → Int × Nat) (wb pd gw : Nat → Nat → Int) (qo : Nat) (fo : Nat → Int64) (hl9 : l.stackTraces = false) (hi : zInv a) (hs : zSet a bs wb pd gw 0 0) (x1 : Int32) (x2 : Int32) (h0 : zBad x1 (zNb a)) (v : Int32) : zMH g l yL_told wsL_told { frames := 8, cells := 1, slots := 6, locals := 133 } [.ref (q 0), .int x1, .int x2, .ref qo] (wB g q a (zG0 a) bs wb pd gw ++ [(qo, .inl (zJ g, 1, .inr (.inl fo)))]) (zPie (nI 1) (zWp g q qo a 1 (v))) 1 6 := by
  refine zMH.of (cc := cL_told) (nL := 5) (ret := (some .int)) (lv := [(0, .ref (q 0)), (1, .int x1), (2, .int x2), (3, .ref qo)]) (by decide) rfl (Nat.le_of_ble_eq_true rfl) rfl ?_
  intro E C0 F ht
  have C : zC g E cL_told RL wsL_told 5 (some .int) := C0
  clear C0
  refine z_aload_n C dL_told_0 3 rfl ?_
  refine z_iconst C (nI 0) dL_told_1 (by decide) ?_
  refine z_aload_n C dL_told_2 0 rfl ?_
  refine z_iload_n C dL_told_3 1 rfl ?_
  refine z_iload_n C dL_told_4 2 rfl ?_
  refine z_xcallV C F (zX.fr (x_X2_told_e1 l g q a bs wb pd gw hl9 hi.1 x1 x2 h0) [] [(qo, .inl (zJ g, 1, .inr (.inl fo)))]) (cwV 2 C.ts gL_told_X2_told rfl rfl rfl (by decide +kernel) ⟨Nat.le_of_ble_eq_true rfl, Nat.le_of_ble_eq_true rfl⟩) (zapp_l wB_o) rfl rfl rfl (Nat.le_of_ble_eq_true rfl) dL_told_5 ⟨Nat.le_of_ble_eq_true rfl, Nat.le_of_ble_eq_true rfl⟩ (z_xcatch C [] ⟨0, 10, 13, 21⟩ [] (ht.trans rfl) (fun _ h9 => nomatch h9) (by decide) (by decide) (C.w 1 rfl) (z_cast C 17 rfl) (fun q9 => ?_))
  refine z_astore C dL_told_13 (by decide) [(4, .ref q9), (0, .ref (q 0)), (1, .int x1), (2, .int x2), (3, .ref qo)] rfl ?_
  refine z_iconst C (nI 1) dL_told_15 (by decide) ?_
  exact z_iretE C dL_told_16 rfl ⟨_, _, ⟨_, _, _, _, rfl, hs⟩, fun h => absurd h (by decide), rfl⟩
set_option maxRecDepth 100000 in
set_option maxHeartbeats 4000000 in
theorem w_told_2 (l : Launch) (g : zG) (q : Nat → Nat) (a : zS) (bs : Nat → Int × Nat) (wb pd gw : Nat → Nat → Int) (qo : Nat) (fo : Nat → Int64) (hl9 : l.stackTraces = false) (hi : zInv a) (hs : zSet a bs wb pd gw 0 0) (b : Nat) (x2 : Int32) (h0 : b < zNb a) (h1 : zBad x2 8) (v : Int32) : zMH g l yL_told wsL_told { frames := 8, cells := 1, slots := 6, locals := 133 } [.ref (q 0), .int (nI b), .int x2, .ref qo] (wB g q a (zG0 a) bs wb pd gw ++ [(qo, .inl (zJ g, 1, .inr (.inl fo)))]) (zPie (nI 1) (zWp g q qo a 1 (v))) 1 6 := by
  refine zMH.of (cc := cL_told) (nL := 5) (ret := (some .int)) (lv := [(0, .ref (q 0)), (1, .int (nI b)), (2, .int x2), (3, .ref qo)]) (by decide) rfl (Nat.le_of_ble_eq_true rfl) rfl ?_
  intro E C0 F ht
  have C : zC g E cL_told RL wsL_told 5 (some .int) := C0
  clear C0
  refine z_aload_n C dL_told_0 3 rfl ?_
  refine z_iconst C (nI 0) dL_told_1 (by decide) ?_
  refine z_aload_n C dL_told_2 0 rfl ?_
  refine z_iload_n C dL_told_3 1 rfl ?_
  refine z_iload_n C dL_told_4 2 rfl ?_
  refine z_xcallV C F (zX.fr (x_X2_told_e2 l g q a bs wb pd gw hl9 hi.1 b x2 h0 h1) [] [(qo, .inl (zJ g, 1, .inr (.inl fo)))]) (cwV 2 C.ts gL_told_X2_told rfl rfl rfl (by decide +kernel) ⟨Nat.le_of_ble_eq_true rfl, Nat.le_of_ble_eq_true rfl⟩) (zapp_l wB_o) rfl rfl rfl (Nat.le_of_ble_eq_true rfl) dL_told_5 ⟨Nat.le_of_ble_eq_true rfl, Nat.le_of_ble_eq_true rfl⟩ (z_xcatch C [] ⟨0, 10, 13, 21⟩ [] (ht.trans rfl) (fun _ h9 => nomatch h9) (by decide) (by decide) (C.w 1 rfl) (z_cast C 17 rfl) (fun q9 => ?_))
  refine z_astore C dL_told_13 (by decide) [(4, .ref q9), (0, .ref (q 0)), (1, .int (nI b)), (2, .int x2), (3, .ref qo)] rfl ?_
  refine z_iconst C (nI 1) dL_told_15 (by decide) ?_
  exact z_iretE C dL_told_16 rfl ⟨_, _, ⟨_, _, _, _, rfl, hs⟩, fun h => absurd h (by decide), rfl⟩
theorem w_told (l : Launch) (g : zG) (q : Nat → Nat) (a : zS) (bs : Nat → Int × Nat) (wb pd gw : Nat → Nat → Int) (qo : Nat) (fo : Nat → Int64) {v : Int32} {k : Nat} {a' : zS} (hl9 : l.stackTraces = false) (hi : zInv a) (hs : zSet a bs wb pd gw 0 0) (x1 x2 : Int32) (h : sp_told a x1 x2 k v a') : zMH g l yL_told wsL_told { frames := 8, cells := 1, slots := 6, locals := 133 } [.ref (q 0), .int x1, .int x2, .ref qo] (wB g q a (zG0 a) bs wb pd gw ++ [(qo, .inl (zJ g, 1, .inr (.inl fo)))]) (zPie (nI k) (zWp g q qo a' k v)) 1 6 := by
  rcases h with ⟨b, w, h0, h1, rfl, rfl, rfl, rfl, rfl⟩ | ⟨h0, rfl, rfl⟩ | ⟨b, h0, h1, rfl, rfl, rfl⟩
  · exact (w_told_0 l g q a' bs wb pd gw qo fo hl9 hi hs b w h0 h1).wide ⟨Nat.le_of_ble_eq_true rfl, Nat.le_of_ble_eq_true rfl, Nat.le_of_ble_eq_true rfl, Nat.le_of_ble_eq_true rfl⟩ ⟨Nat.le_of_ble_eq_true rfl, Nat.le_of_ble_eq_true rfl⟩
  · exact (w_told_1 l g q a' bs wb pd gw qo fo hl9 hi hs x1 x2 h0 v).wide ⟨Nat.le_of_ble_eq_true rfl, Nat.le_of_ble_eq_true rfl, Nat.le_of_ble_eq_true rfl, Nat.le_of_ble_eq_true rfl⟩ ⟨Nat.le_of_ble_eq_true rfl, Nat.le_of_ble_eq_true rfl⟩
  · exact (w_told_2 l g q a' bs wb pd gw qo fo hl9 hi hs b x2 h0 h1 v).wide ⟨Nat.le_of_ble_eq_true rfl, Nat.le_of_ble_eq_true rfl, Nat.le_of_ble_eq_true rfl, Nat.le_of_ble_eq_true rfl⟩ ⟨Nat.le_of_ble_eq_true rfl, Nat.le_of_ble_eq_true rfl⟩
set_option maxRecDepth 100000 in
set_option maxHeartbeats 4000000 in
theorem w_about_0 (l : Launch) (g : zG) (q : Nat → Nat) (a : zS) (bs : Nat → Int × Nat) (wb pd gw : Nat → Nat → Int) (qo : Nat) (fo : Nat → Int64) (hl9 : l.stackTraces = false) (hi : zInv a) (hs : zSet a bs wb pd gw 0 0) (b : Nat) (w : Nat) (h0 : b < zNd a) (h1 : w ≤ 5) : zMH g l yL_about wsL_about { frames := 8, cells := 0, slots := 0, locals := 133 } [.ref (q 0), .int (nI b), .int (nI w), .ref qo] (wB g q a (zG0 a) bs wb pd gw ++ [(qo, .inl (zJ g, 1, .inr (.inl fo)))]) (zPie (nI 0) (zWp g q qo a 0 (iZ (aAbout a b w)))) 0 0 := by
  refine zMH.of (cc := cL_about) (nL := 5) (ret := (some .int)) (lv := [(0, .ref (q 0)), (1, .int (nI b)), (2, .int (nI w)), (3, .ref qo)]) (by decide) rfl (Nat.le_of_ble_eq_true rfl) rfl ?_
  intro E C0 F ht
  have C : zC g E cL_about RL wsL_about 5 (some .int) := C0
  clear C0
  refine z_aload_n C dL_about_0 3 rfl ?_
  refine z_iconst C (nI 0) dL_about_1 (by decide) ?_
  refine z_aload_n C dL_about_2 0 rfl ?_
  refine z_iload_n C dL_about_3 1 rfl ?_
  refine z_iload_n C dL_about_4 2 rfl ?_
  refine z_callV C (zM.fr (c_X2_about l g q a bs wb pd gw hi.1 hs b w h0 h1) [] [(qo, .inl (zJ g, 1, .inr (.inl fo)))]) (cwV 2 C.ts gL_about_X2_about rfl rfl rfl (by decide +kernel) ⟨Nat.le_of_ble_eq_true rfl, Nat.le_of_ble_eq_true rfl⟩) (zapp_l wB_o) rfl rfl rfl (Nat.le_of_ble_eq_true rfl) dL_about_5 ⟨Nat.zero_le _, Nat.zero_le _⟩ ?_
  rintro _ _ ⟨_, ⟨rfl, rfl⟩, rfl⟩
  have hs2 := hs
  refine zW.eqw (ws2 := wB g q a (zG0 a) bs wb pd gw ++ [(qo, .inl (zJ g, 1, .inr (.inl fo)))]) rfl ?_
  refine z_i2l C dL_about_8 (v := (iZ (aAbout a b w)).toInt64) rfl ?_
  refine z_lastN C 20 rfl (by omega) (by decide) dL_about_9 (zapp_tl rfl) ?_
  refine z_goto C 17 dL_about_10 (by decide) ?_
  refine z_iconst C (nI 0) dL_about_17 (by decide) ?_
  exact z_iretE C dL_about_18 rfl ⟨_, _, ⟨_, _, _, _, rfl, hs2⟩, fun _ => rfl, rfl⟩
set_option maxRecDepth 100000 in
set_option maxHeartbeats 4000000 in
theorem w_about_1 (l : Launch) (g : zG) (q : Nat → Nat) (a : zS) (bs : Nat → Int × Nat) (wb pd gw : Nat → Nat → Int) (qo : Nat) (fo : Nat → Int64) (hl9 : l.stackTraces = false) (hi : zInv a) (hs : zSet a bs wb pd gw 0 0) (x1 : Int32) (x2 : Int32) (h0 : zBad x1 (zNd a)) (v : Int32) : zMH g l yL_about wsL_about { frames := 8, cells := 1, slots := 6, locals := 133 } [.ref (q 0), .int x1, .int x2, .ref qo] (wB g q a (zG0 a) bs wb pd gw ++ [(qo, .inl (zJ g, 1, .inr (.inl fo)))]) (zPie (nI 1) (zWp g q qo a 1 (v))) 1 6 := by
  refine zMH.of (cc := cL_about) (nL := 5) (ret := (some .int)) (lv := [(0, .ref (q 0)), (1, .int x1), (2, .int x2), (3, .ref qo)]) (by decide) rfl (Nat.le_of_ble_eq_true rfl) rfl ?_
  intro E C0 F ht
  have C : zC g E cL_about RL wsL_about 5 (some .int) := C0
  clear C0
  refine z_aload_n C dL_about_0 3 rfl ?_
  refine z_iconst C (nI 0) dL_about_1 (by decide) ?_
  refine z_aload_n C dL_about_2 0 rfl ?_
  refine z_iload_n C dL_about_3 1 rfl ?_
  refine z_iload_n C dL_about_4 2 rfl ?_
  refine z_xcallV C F (zX.fr (x_X2_about_e1 l g q a bs wb pd gw hl9 hi.1 x1 x2 h0) [] [(qo, .inl (zJ g, 1, .inr (.inl fo)))]) (cwV 2 C.ts gL_about_X2_about rfl rfl rfl (by decide +kernel) ⟨Nat.le_of_ble_eq_true rfl, Nat.le_of_ble_eq_true rfl⟩) (zapp_l wB_o) rfl rfl rfl (Nat.le_of_ble_eq_true rfl) dL_about_5 ⟨Nat.le_of_ble_eq_true rfl, Nat.le_of_ble_eq_true rfl⟩ (z_xcatch C [] ⟨0, 10, 13, 21⟩ [] (ht.trans rfl) (fun _ h9 => nomatch h9) (by decide) (by decide) (C.w 1 rfl) (z_cast C 17 rfl) (fun q9 => ?_))
  refine z_astore C dL_about_13 (by decide) [(4, .ref q9), (0, .ref (q 0)), (1, .int x1), (2, .int x2), (3, .ref qo)] rfl ?_
  refine z_iconst C (nI 1) dL_about_15 (by decide) ?_
  exact z_iretE C dL_about_16 rfl ⟨_, _, ⟨_, _, _, _, rfl, hs⟩, fun h => absurd h (by decide), rfl⟩
set_option maxRecDepth 100000 in
set_option maxHeartbeats 4000000 in
theorem w_about_2 (l : Launch) (g : zG) (q : Nat → Nat) (a : zS) (bs : Nat → Int × Nat) (wb pd gw : Nat → Nat → Int) (qo : Nat) (fo : Nat → Int64) (hl9 : l.stackTraces = false) (hi : zInv a) (hs : zSet a bs wb pd gw 0 0) (b : Nat) (x2 : Int32) (h0 : b < zNd a) (h1 : zBad x2 6) (v : Int32) : zMH g l yL_about wsL_about { frames := 8, cells := 1, slots := 6, locals := 133 } [.ref (q 0), .int (nI b), .int x2, .ref qo] (wB g q a (zG0 a) bs wb pd gw ++ [(qo, .inl (zJ g, 1, .inr (.inl fo)))]) (zPie (nI 1) (zWp g q qo a 1 (v))) 1 6 := by
  refine zMH.of (cc := cL_about) (nL := 5) (ret := (some .int)) (lv := [(0, .ref (q 0)), (1, .int (nI b)), (2, .int x2), (3, .ref qo)]) (by decide) rfl (Nat.le_of_ble_eq_true rfl) rfl ?_
  intro E C0 F ht
  have C : zC g E cL_about RL wsL_about 5 (some .int) := C0
  clear C0
  refine z_aload_n C dL_about_0 3 rfl ?_
  refine z_iconst C (nI 0) dL_about_1 (by decide) ?_
  refine z_aload_n C dL_about_2 0 rfl ?_
  refine z_iload_n C dL_about_3 1 rfl ?_
  refine z_iload_n C dL_about_4 2 rfl ?_
  refine z_xcallV C F (zX.fr (x_X2_about_e2 l g q a bs wb pd gw hl9 hi.1 b x2 h0 h1) [] [(qo, .inl (zJ g, 1, .inr (.inl fo)))]) (cwV 2 C.ts gL_about_X2_about rfl rfl rfl (by decide +kernel) ⟨Nat.le_of_ble_eq_true rfl, Nat.le_of_ble_eq_true rfl⟩) (zapp_l wB_o) rfl rfl rfl (Nat.le_of_ble_eq_true rfl) dL_about_5 ⟨Nat.le_of_ble_eq_true rfl, Nat.le_of_ble_eq_true rfl⟩ (z_xcatch C [] ⟨0, 10, 13, 21⟩ [] (ht.trans rfl) (fun _ h9 => nomatch h9) (by decide) (by decide) (C.w 1 rfl) (z_cast C 17 rfl) (fun q9 => ?_))
  refine z_astore C dL_about_13 (by decide) [(4, .ref q9), (0, .ref (q 0)), (1, .int (nI b)), (2, .int x2), (3, .ref qo)] rfl ?_
  refine z_iconst C (nI 1) dL_about_15 (by decide) ?_
  exact z_iretE C dL_about_16 rfl ⟨_, _, ⟨_, _, _, _, rfl, hs⟩, fun h => absurd h (by decide), rfl⟩
theorem w_about (l : Launch) (g : zG) (q : Nat → Nat) (a : zS) (bs : Nat → Int × Nat) (wb pd gw : Nat → Nat → Int) (qo : Nat) (fo : Nat → Int64) {v : Int32} {k : Nat} {a' : zS} (hl9 : l.stackTraces = false) (hi : zInv a) (hs : zSet a bs wb pd gw 0 0) (x1 x2 : Int32) (h : sp_about a x1 x2 k v a') : zMH g l yL_about wsL_about { frames := 8, cells := 1, slots := 6, locals := 133 } [.ref (q 0), .int x1, .int x2, .ref qo] (wB g q a (zG0 a) bs wb pd gw ++ [(qo, .inl (zJ g, 1, .inr (.inl fo)))]) (zPie (nI k) (zWp g q qo a' k v)) 1 6 := by
  rcases h with ⟨b, w, h0, h1, rfl, rfl, rfl, rfl, rfl⟩ | ⟨h0, rfl, rfl⟩ | ⟨b, h0, h1, rfl, rfl, rfl⟩
  · exact (w_about_0 l g q a' bs wb pd gw qo fo hl9 hi hs b w h0 h1).wide ⟨Nat.le_of_ble_eq_true rfl, Nat.le_of_ble_eq_true rfl, Nat.le_of_ble_eq_true rfl, Nat.le_of_ble_eq_true rfl⟩ ⟨Nat.le_of_ble_eq_true rfl, Nat.le_of_ble_eq_true rfl⟩
  · exact (w_about_1 l g q a' bs wb pd gw qo fo hl9 hi hs x1 x2 h0 v).wide ⟨Nat.le_of_ble_eq_true rfl, Nat.le_of_ble_eq_true rfl, Nat.le_of_ble_eq_true rfl, Nat.le_of_ble_eq_true rfl⟩ ⟨Nat.le_of_ble_eq_true rfl, Nat.le_of_ble_eq_true rfl⟩
  · exact (w_about_2 l g q a' bs wb pd gw qo fo hl9 hi hs b x2 h0 h1 v).wide ⟨Nat.le_of_ble_eq_true rfl, Nat.le_of_ble_eq_true rfl, Nat.le_of_ble_eq_true rfl, Nat.le_of_ble_eq_true rfl⟩ ⟨Nat.le_of_ble_eq_true rfl, Nat.le_of_ble_eq_true rfl⟩
set_option maxRecDepth 100000 in
set_option maxHeartbeats 4000000 in
theorem w_land_0 (l : Launch) (g : zG) (q : Nat → Nat) (a : zS) (bs : Nat → Int × Nat) (wb pd gw : Nat → Nat → Int) (qo : Nat) (fo : Nat → Int64) (hl9 : l.stackTraces = false) (hi : zInv a) (hs : zSet a bs wb pd gw 0 0) (b : Nat) (w : Nat) (h0 : b < zNf a) (h1 : w ≤ 2) : zMH g l yL_land wsL_land { frames := 8, cells := 0, slots := 0, locals := 133 } [.ref (q 0), .int (nI b), .int (nI w), .ref qo] (wB g q a (zG0 a) bs wb pd gw ++ [(qo, .inl (zJ g, 1, .inr (.inl fo)))]) (zPie (nI 0) (zWp g q qo a 0 (iZ (aLand a b w)))) 0 0 := by
  refine zMH.of (cc := cL_land) (nL := 5) (ret := (some .int)) (lv := [(0, .ref (q 0)), (1, .int (nI b)), (2, .int (nI w)), (3, .ref qo)]) (by decide) rfl (Nat.le_of_ble_eq_true rfl) rfl ?_
  intro E C0 F ht
  have C : zC g E cL_land RL wsL_land 5 (some .int) := C0
  clear C0
  refine z_aload_n C dL_land_0 3 rfl ?_
  refine z_iconst C (nI 0) dL_land_1 (by decide) ?_
  refine z_aload_n C dL_land_2 0 rfl ?_
  refine z_iload_n C dL_land_3 1 rfl ?_
  refine z_iload_n C dL_land_4 2 rfl ?_
  refine z_callV C (zM.fr (c_X2_land l g q a bs wb pd gw hi.1 hs b w h0 h1) [] [(qo, .inl (zJ g, 1, .inr (.inl fo)))]) (cwV 2 C.ts gL_land_X2_land rfl rfl rfl (by decide +kernel) ⟨Nat.le_of_ble_eq_true rfl, Nat.le_of_ble_eq_true rfl⟩) (zapp_l wB_o) rfl rfl rfl (Nat.le_of_ble_eq_true rfl) dL_land_5 ⟨Nat.zero_le _, Nat.zero_le _⟩ ?_
  rintro _ _ ⟨_, ⟨rfl, rfl⟩, rfl⟩
  have hs2 := hs
  refine zW.eqw (ws2 := wB g q a (zG0 a) bs wb pd gw ++ [(qo, .inl (zJ g, 1, .inr (.inl fo)))]) rfl ?_
  refine z_i2l C dL_land_8 (v := (iZ (aLand a b w)).toInt64) rfl ?_
  refine z_lastN C 20 rfl (by omega) (by decide) dL_land_9 (zapp_tl rfl) ?_
  refine z_goto C 17 dL_land_10 (by decide) ?_
  refine z_iconst C (nI 0) dL_land_17 (by decide) ?_
  exact z_iretE C dL_land_18 rfl ⟨_, _, ⟨_, _, _, _, rfl, hs2⟩, fun _ => rfl, rfl⟩
set_option maxRecDepth 100000 in
set_option maxHeartbeats 4000000 in
theorem w_land_1 (l : Launch) (g : zG) (q : Nat → Nat) (a : zS) (bs : Nat → Int × Nat) (wb pd gw : Nat → Nat → Int) (qo : Nat) (fo : Nat → Int64) (hl9 : l.stackTraces = false) (hi : zInv a) (hs : zSet a bs wb pd gw 0 0) (x1 : Int32) (x2 : Int32) (h0 : zBad x1 (zNf a)) (v : Int32) : zMH g l yL_land wsL_land { frames := 8, cells := 1, slots := 6, locals := 133 } [.ref (q 0), .int x1, .int x2, .ref qo] (wB g q a (zG0 a) bs wb pd gw ++ [(qo, .inl (zJ g, 1, .inr (.inl fo)))]) (zPie (nI 1) (zWp g q qo a 1 (v))) 1 6 := by
  refine zMH.of (cc := cL_land) (nL := 5) (ret := (some .int)) (lv := [(0, .ref (q 0)), (1, .int x1), (2, .int x2), (3, .ref qo)]) (by decide) rfl (Nat.le_of_ble_eq_true rfl) rfl ?_
  intro E C0 F ht
  have C : zC g E cL_land RL wsL_land 5 (some .int) := C0
  clear C0
  refine z_aload_n C dL_land_0 3 rfl ?_
  refine z_iconst C (nI 0) dL_land_1 (by decide) ?_
  refine z_aload_n C dL_land_2 0 rfl ?_
  refine z_iload_n C dL_land_3 1 rfl ?_
  refine z_iload_n C dL_land_4 2 rfl ?_
  refine z_xcallV C F (zX.fr (x_X2_land_e1 l g q a bs wb pd gw hl9 hi.1 x1 x2 h0) [] [(qo, .inl (zJ g, 1, .inr (.inl fo)))]) (cwV 2 C.ts gL_land_X2_land rfl rfl rfl (by decide +kernel) ⟨Nat.le_of_ble_eq_true rfl, Nat.le_of_ble_eq_true rfl⟩) (zapp_l wB_o) rfl rfl rfl (Nat.le_of_ble_eq_true rfl) dL_land_5 ⟨Nat.le_of_ble_eq_true rfl, Nat.le_of_ble_eq_true rfl⟩ (z_xcatch C [] ⟨0, 10, 13, 21⟩ [] (ht.trans rfl) (fun _ h9 => nomatch h9) (by decide) (by decide) (C.w 1 rfl) (z_cast C 17 rfl) (fun q9 => ?_))
  refine z_astore C dL_land_13 (by decide) [(4, .ref q9), (0, .ref (q 0)), (1, .int x1), (2, .int x2), (3, .ref qo)] rfl ?_
  refine z_iconst C (nI 1) dL_land_15 (by decide) ?_
  exact z_iretE C dL_land_16 rfl ⟨_, _, ⟨_, _, _, _, rfl, hs⟩, fun h => absurd h (by decide), rfl⟩
set_option maxRecDepth 100000 in
set_option maxHeartbeats 4000000 in
theorem w_land_2 (l : Launch) (g : zG) (q : Nat → Nat) (a : zS) (bs : Nat → Int × Nat) (wb pd gw : Nat → Nat → Int) (qo : Nat) (fo : Nat → Int64) (hl9 : l.stackTraces = false) (hi : zInv a) (hs : zSet a bs wb pd gw 0 0) (b : Nat) (x2 : Int32) (h0 : b < zNf a) (h1 : zBad x2 3) (v : Int32) : zMH g l yL_land wsL_land { frames := 8, cells := 1, slots := 6, locals := 133 } [.ref (q 0), .int (nI b), .int x2, .ref qo] (wB g q a (zG0 a) bs wb pd gw ++ [(qo, .inl (zJ g, 1, .inr (.inl fo)))]) (zPie (nI 1) (zWp g q qo a 1 (v))) 1 6 := by
  refine zMH.of (cc := cL_land) (nL := 5) (ret := (some .int)) (lv := [(0, .ref (q 0)), (1, .int (nI b)), (2, .int x2), (3, .ref qo)]) (by decide) rfl (Nat.le_of_ble_eq_true rfl) rfl ?_
  intro E C0 F ht
  have C : zC g E cL_land RL wsL_land 5 (some .int) := C0
  clear C0
  refine z_aload_n C dL_land_0 3 rfl ?_
  refine z_iconst C (nI 0) dL_land_1 (by decide) ?_
  refine z_aload_n C dL_land_2 0 rfl ?_
  refine z_iload_n C dL_land_3 1 rfl ?_
  refine z_iload_n C dL_land_4 2 rfl ?_
  refine z_xcallV C F (zX.fr (x_X2_land_e2 l g q a bs wb pd gw hl9 hi.1 b x2 h0 h1) [] [(qo, .inl (zJ g, 1, .inr (.inl fo)))]) (cwV 2 C.ts gL_land_X2_land rfl rfl rfl (by decide +kernel) ⟨Nat.le_of_ble_eq_true rfl, Nat.le_of_ble_eq_true rfl⟩) (zapp_l wB_o) rfl rfl rfl (Nat.le_of_ble_eq_true rfl) dL_land_5 ⟨Nat.le_of_ble_eq_true rfl, Nat.le_of_ble_eq_true rfl⟩ (z_xcatch C [] ⟨0, 10, 13, 21⟩ [] (ht.trans rfl) (fun _ h9 => nomatch h9) (by decide) (by decide) (C.w 1 rfl) (z_cast C 17 rfl) (fun q9 => ?_))
  refine z_astore C dL_land_13 (by decide) [(4, .ref q9), (0, .ref (q 0)), (1, .int (nI b)), (2, .int x2), (3, .ref qo)] rfl ?_
  refine z_iconst C (nI 1) dL_land_15 (by decide) ?_
  exact z_iretE C dL_land_16 rfl ⟨_, _, ⟨_, _, _, _, rfl, hs⟩, fun h => absurd h (by decide), rfl⟩
theorem w_land (l : Launch) (g : zG) (q : Nat → Nat) (a : zS) (bs : Nat → Int × Nat) (wb pd gw : Nat → Nat → Int) (qo : Nat) (fo : Nat → Int64) {v : Int32} {k : Nat} {a' : zS} (hl9 : l.stackTraces = false) (hi : zInv a) (hs : zSet a bs wb pd gw 0 0) (x1 x2 : Int32) (h : sp_land a x1 x2 k v a') : zMH g l yL_land wsL_land { frames := 8, cells := 1, slots := 6, locals := 133 } [.ref (q 0), .int x1, .int x2, .ref qo] (wB g q a (zG0 a) bs wb pd gw ++ [(qo, .inl (zJ g, 1, .inr (.inl fo)))]) (zPie (nI k) (zWp g q qo a' k v)) 1 6 := by
  rcases h with ⟨b, w, h0, h1, rfl, rfl, rfl, rfl, rfl⟩ | ⟨h0, rfl, rfl⟩ | ⟨b, h0, h1, rfl, rfl, rfl⟩
  · exact (w_land_0 l g q a' bs wb pd gw qo fo hl9 hi hs b w h0 h1).wide ⟨Nat.le_of_ble_eq_true rfl, Nat.le_of_ble_eq_true rfl, Nat.le_of_ble_eq_true rfl, Nat.le_of_ble_eq_true rfl⟩ ⟨Nat.le_of_ble_eq_true rfl, Nat.le_of_ble_eq_true rfl⟩
  · exact (w_land_1 l g q a' bs wb pd gw qo fo hl9 hi hs x1 x2 h0 v).wide ⟨Nat.le_of_ble_eq_true rfl, Nat.le_of_ble_eq_true rfl, Nat.le_of_ble_eq_true rfl, Nat.le_of_ble_eq_true rfl⟩ ⟨Nat.le_of_ble_eq_true rfl, Nat.le_of_ble_eq_true rfl⟩
  · exact (w_land_2 l g q a' bs wb pd gw qo fo hl9 hi hs b x2 h0 h1 v).wide ⟨Nat.le_of_ble_eq_true rfl, Nat.le_of_ble_eq_true rfl, Nat.le_of_ble_eq_true rfl, Nat.le_of_ble_eq_true rfl⟩ ⟨Nat.le_of_ble_eq_true rfl, Nat.le_of_ble_eq_true rfl⟩
set_option maxRecDepth 100000 in
set_option maxHeartbeats 4000000 in
theorem w_alone_0 (l : Launch) (g : zG) (q : Nat → Nat) (a : zS) (bs : Nat → Int × Nat) (wb pd gw : Nat → Nat → Int) (qo : Nat) (fo : Nat → Int64) (hl9 : l.stackTraces = false) (hi : zInv a) (hs : zSet a bs wb pd gw 0 0) (b : Nat) (w : Nat) (h0 : b < zNf a) (h1 : w ≤ 2) : zMH g l yL_alone wsL_alone { frames := 8, cells := 0, slots := 0, locals := 134 } [.ref (q 0), .int (nI b), .int (nI w), .ref qo] (wB g q a (zG0 a) bs wb pd gw ++ [(qo, .inl (zJ g, 1, .inr (.inl fo)))]) (zPie (nI 0) (zWp g q qo a 0 (iZ (aAlone a b w)))) 0 0 := by
  refine zMH.of (cc := cL_alone) (nL := 5) (ret := (some .int)) (lv := [(0, .ref (q 0)), (1, .int (nI b)), (2, .int (nI w)), (3, .ref qo)]) (by decide) rfl (Nat.le_of_ble_eq_true rfl) rfl ?_
  intro E C0 F ht
  have C : zC g E cL_alone RL wsL_alone 5 (some .int) := C0
  clear C0
  refine z_aload_n C dL_alone_0 3 rfl ?_
  refine z_iconst C (nI 0) dL_alone_1 (by decide) ?_
  refine z_aload_n C dL_alone_2 0 rfl ?_
  refine z_iload_n C dL_alone_3 1 rfl ?_
  refine z_iload_n C dL_alone_4 2 rfl ?_
  refine z_callV C (zM.fr (c_X2_alone l g q a bs wb pd gw hi.1 hs b w h0 h1) [] [(qo, .inl (zJ g, 1, .inr (.inl fo)))]) (cwV 2 C.ts gL_alone_X2_alone rfl rfl rfl (by decide +kernel) ⟨Nat.le_of_ble_eq_true rfl, Nat.le_of_ble_eq_true rfl⟩) (zapp_l wB_o) rfl rfl rfl (Nat.le_of_ble_eq_true rfl) dL_alone_5 ⟨Nat.zero_le _, Nat.zero_le _⟩ ?_
  rintro _ _ ⟨_, ⟨rfl, rfl⟩, rfl⟩
  have hs2 := hs
  refine zW.eqw (ws2 := wB g q a (zG0 a) bs wb pd gw ++ [(qo, .inl (zJ g, 1, .inr (.inl fo)))]) rfl ?_
  refine z_i2l C dL_alone_8 (v := (iZ (aAlone a b w)).toInt64) rfl ?_
  refine z_lastN C 20 rfl (by omega) (by decide) dL_alone_9 (zapp_tl rfl) ?_
  refine z_goto C 17 dL_alone_10 (by decide) ?_
  refine z_iconst C (nI 0) dL_alone_17 (by decide) ?_
  exact z_iretE C dL_alone_18 rfl ⟨_, _, ⟨_, _, _, _, rfl, hs2⟩, fun _ => rfl, rfl⟩
set_option maxRecDepth 100000 in
set_option maxHeartbeats 4000000 in
theorem w_alone_1 (l : Launch) (g : zG) (q : Nat → Nat) (a : zS) (bs : Nat → Int × Nat) (wb pd gw : Nat → Nat → Int) (qo : Nat) (fo : Nat → Int64) (hl9 : l.stackTraces = false) (hi : zInv a) (hs : zSet a bs wb pd gw 0 0) (x1 : Int32) (x2 : Int32) (h0 : zBad x1 (zNf a)) (v : Int32) : zMH g l yL_alone wsL_alone { frames := 8, cells := 1, slots := 6, locals := 134 } [.ref (q 0), .int x1, .int x2, .ref qo] (wB g q a (zG0 a) bs wb pd gw ++ [(qo, .inl (zJ g, 1, .inr (.inl fo)))]) (zPie (nI 1) (zWp g q qo a 1 (v))) 1 6 := by
  refine zMH.of (cc := cL_alone) (nL := 5) (ret := (some .int)) (lv := [(0, .ref (q 0)), (1, .int x1), (2, .int x2), (3, .ref qo)]) (by decide) rfl (Nat.le_of_ble_eq_true rfl) rfl ?_
  intro E C0 F ht
  have C : zC g E cL_alone RL wsL_alone 5 (some .int) := C0
  clear C0
  refine z_aload_n C dL_alone_0 3 rfl ?_
  refine z_iconst C (nI 0) dL_alone_1 (by decide) ?_
  refine z_aload_n C dL_alone_2 0 rfl ?_
  refine z_iload_n C dL_alone_3 1 rfl ?_
  refine z_iload_n C dL_alone_4 2 rfl ?_
  refine z_xcallV C F (zX.fr (x_X2_alone_e1 l g q a bs wb pd gw hl9 hi.1 x1 x2 h0) [] [(qo, .inl (zJ g, 1, .inr (.inl fo)))]) (cwV 2 C.ts gL_alone_X2_alone rfl rfl rfl (by decide +kernel) ⟨Nat.le_of_ble_eq_true rfl, Nat.le_of_ble_eq_true rfl⟩) (zapp_l wB_o) rfl rfl rfl (Nat.le_of_ble_eq_true rfl) dL_alone_5 ⟨Nat.le_of_ble_eq_true rfl, Nat.le_of_ble_eq_true rfl⟩ (z_xcatch C [] ⟨0, 10, 13, 21⟩ [] (ht.trans rfl) (fun _ h9 => nomatch h9) (by decide) (by decide) (C.w 1 rfl) (z_cast C 17 rfl) (fun q9 => ?_))
  refine z_astore C dL_alone_13 (by decide) [(4, .ref q9), (0, .ref (q 0)), (1, .int x1), (2, .int x2), (3, .ref qo)] rfl ?_
  refine z_iconst C (nI 1) dL_alone_15 (by decide) ?_
  exact z_iretE C dL_alone_16 rfl ⟨_, _, ⟨_, _, _, _, rfl, hs⟩, fun h => absurd h (by decide), rfl⟩
set_option maxRecDepth 100000 in
set_option maxHeartbeats 4000000 in
theorem w_alone_2 (l : Launch) (g : zG) (q : Nat → Nat) (a : zS) (bs : Nat → Int × Nat) (wb pd gw : Nat → Nat → Int) (qo : Nat) (fo : Nat → Int64) (hl9 : l.stackTraces = false) (hi : zInv a) (hs : zSet a bs wb pd gw 0 0) (b : Nat) (x2 : Int32) (h0 : b < zNf a) (h1 : zBad x2 3) (v : Int32) : zMH g l yL_alone wsL_alone { frames := 8, cells := 1, slots := 6, locals := 134 } [.ref (q 0), .int (nI b), .int x2, .ref qo] (wB g q a (zG0 a) bs wb pd gw ++ [(qo, .inl (zJ g, 1, .inr (.inl fo)))]) (zPie (nI 1) (zWp g q qo a 1 (v))) 1 6 := by
  refine zMH.of (cc := cL_alone) (nL := 5) (ret := (some .int)) (lv := [(0, .ref (q 0)), (1, .int (nI b)), (2, .int x2), (3, .ref qo)]) (by decide) rfl (Nat.le_of_ble_eq_true rfl) rfl ?_
  intro E C0 F ht
  have C : zC g E cL_alone RL wsL_alone 5 (some .int) := C0
  clear C0
  refine z_aload_n C dL_alone_0 3 rfl ?_
  refine z_iconst C (nI 0) dL_alone_1 (by decide) ?_
  refine z_aload_n C dL_alone_2 0 rfl ?_
  refine z_iload_n C dL_alone_3 1 rfl ?_
  refine z_iload_n C dL_alone_4 2 rfl ?_
  refine z_xcallV C F (zX.fr (x_X2_alone_e2 l g q a bs wb pd gw hl9 hi.1 b x2 h0 h1) [] [(qo, .inl (zJ g, 1, .inr (.inl fo)))]) (cwV 2 C.ts gL_alone_X2_alone rfl rfl rfl (by decide +kernel) ⟨Nat.le_of_ble_eq_true rfl, Nat.le_of_ble_eq_true rfl⟩) (zapp_l wB_o) rfl rfl rfl (Nat.le_of_ble_eq_true rfl) dL_alone_5 ⟨Nat.le_of_ble_eq_true rfl, Nat.le_of_ble_eq_true rfl⟩ (z_xcatch C [] ⟨0, 10, 13, 21⟩ [] (ht.trans rfl) (fun _ h9 => nomatch h9) (by decide) (by decide) (C.w 1 rfl) (z_cast C 17 rfl) (fun q9 => ?_))
  refine z_astore C dL_alone_13 (by decide) [(4, .ref q9), (0, .ref (q 0)), (1, .int (nI b)), (2, .int x2), (3, .ref qo)] rfl ?_
  refine z_iconst C (nI 1) dL_alone_15 (by decide) ?_
  exact z_iretE C dL_alone_16 rfl ⟨_, _, ⟨_, _, _, _, rfl, hs⟩, fun h => absurd h (by decide), rfl⟩
theorem w_alone (l : Launch) (g : zG) (q : Nat → Nat) (a : zS) (bs : Nat → Int × Nat) (wb pd gw : Nat → Nat → Int) (qo : Nat) (fo : Nat → Int64) {v : Int32} {k : Nat} {a' : zS} (hl9 : l.stackTraces = false) (hi : zInv a) (hs : zSet a bs wb pd gw 0 0) (x1 x2 : Int32) (h : sp_alone a x1 x2 k v a') : zMH g l yL_alone wsL_alone { frames := 8, cells := 1, slots := 6, locals := 134 } [.ref (q 0), .int x1, .int x2, .ref qo] (wB g q a (zG0 a) bs wb pd gw ++ [(qo, .inl (zJ g, 1, .inr (.inl fo)))]) (zPie (nI k) (zWp g q qo a' k v)) 1 6 := by
  rcases h with ⟨b, w, h0, h1, rfl, rfl, rfl, rfl, rfl⟩ | ⟨h0, rfl, rfl⟩ | ⟨b, h0, h1, rfl, rfl, rfl⟩
  · exact (w_alone_0 l g q a' bs wb pd gw qo fo hl9 hi hs b w h0 h1).wide ⟨Nat.le_of_ble_eq_true rfl, Nat.le_of_ble_eq_true rfl, Nat.le_of_ble_eq_true rfl, Nat.le_of_ble_eq_true rfl⟩ ⟨Nat.le_of_ble_eq_true rfl, Nat.le_of_ble_eq_true rfl⟩
  · exact (w_alone_1 l g q a' bs wb pd gw qo fo hl9 hi hs x1 x2 h0 v).wide ⟨Nat.le_of_ble_eq_true rfl, Nat.le_of_ble_eq_true rfl, Nat.le_of_ble_eq_true rfl, Nat.le_of_ble_eq_true rfl⟩ ⟨Nat.le_of_ble_eq_true rfl, Nat.le_of_ble_eq_true rfl⟩
  · exact (w_alone_2 l g q a' bs wb pd gw qo fo hl9 hi hs b x2 h0 h1 v).wide ⟨Nat.le_of_ble_eq_true rfl, Nat.le_of_ble_eq_true rfl, Nat.le_of_ble_eq_true rfl, Nat.le_of_ble_eq_true rfl⟩ ⟨Nat.le_of_ble_eq_true rfl, Nat.le_of_ble_eq_true rfl⟩
set_option maxRecDepth 100000 in
set_option maxHeartbeats 4000000 in
theorem w_count_0 (l : Launch) (g : zG) (q : Nat → Nat) (a : zS) (bs : Nat → Int × Nat) (wb pd gw : Nat → Nat → Int) (qo : Nat) (fo : Nat → Int64) (hl9 : l.stackTraces = false) (hi : zInv a) (hs : zSet a bs wb pd gw 0 0) (w : Nat) (h0 : w ≤ 8) : zMH g l yL_count wsL_count { frames := 8, cells := 0, slots := 0, locals := 132 } [.ref (q 0), .int (nI w), .ref qo] (wB g q a (zG0 a) bs wb pd gw ++ [(qo, .inl (zJ g, 1, .inr (.inl fo)))]) (zPie (nI 0) (zWp g q qo a 0 (iZ (aCount a w)))) 0 0 := by
  refine zMH.of (cc := cL_count) (nL := 4) (ret := (some .int)) (lv := [(0, .ref (q 0)), (1, .int (nI w)), (2, .ref qo)]) (by decide) rfl (Nat.le_of_ble_eq_true rfl) rfl ?_
  intro E C0 F ht
  have C : zC g E cL_count RL wsL_count 4 (some .int) := C0
  clear C0
  refine z_aload_n C dL_count_0 2 rfl ?_
  refine z_iconst C (nI 0) dL_count_1 (by decide) ?_
  refine z_aload_n C dL_count_2 0 rfl ?_
  refine z_iload_n C dL_count_3 1 rfl ?_
  refine z_callV C (zM.fr (c_X2_count l g q a bs wb pd gw hi.1 hs w h0) [] [(qo, .inl (zJ g, 1, .inr (.inl fo)))]) (cwV 1 C.ts gL_count_X2_count rfl rfl rfl (by decide +kernel) ⟨Nat.le_of_ble_eq_true rfl, Nat.le_of_ble_eq_true rfl⟩) (zapp_l wB_o) rfl rfl rfl (Nat.le_of_ble_eq_true rfl) dL_count_4 ⟨Nat.zero_le _, Nat.zero_le _⟩ ?_
  rintro _ _ ⟨_, ⟨rfl, rfl⟩, rfl⟩
  have hs2 := hs
  refine zW.eqw (ws2 := wB g q a (zG0 a) bs wb pd gw ++ [(qo, .inl (zJ g, 1, .inr (.inl fo)))]) rfl ?_
  refine z_i2l C dL_count_7 (v := (iZ (aCount a w)).toInt64) rfl ?_
  refine z_lastN C 20 rfl (by omega) (by decide) dL_count_8 (zapp_tl rfl) ?_
  refine z_goto C 15 dL_count_9 (by decide) ?_
  refine z_iconst C (nI 0) dL_count_15 (by decide) ?_
  exact z_iretE C dL_count_16 rfl ⟨_, _, ⟨_, _, _, _, rfl, hs2⟩, fun _ => rfl, rfl⟩
set_option maxRecDepth 100000 in
set_option maxHeartbeats 4000000 in
theorem w_count_1 (l : Launch) (g : zG) (q : Nat → Nat) (a : zS) (bs : Nat → Int × Nat) (wb pd gw : Nat → Nat → Int) (qo : Nat) (fo : Nat → Int64) (hl9 : l.stackTraces = false) (hi : zInv a) (hs : zSet a bs wb pd gw 0 0) (x1 : Int32) (h0 : zBad x1 9) (v : Int32) : zMH g l yL_count wsL_count { frames := 8, cells := 1, slots := 6, locals := 132 } [.ref (q 0), .int x1, .ref qo] (wB g q a (zG0 a) bs wb pd gw ++ [(qo, .inl (zJ g, 1, .inr (.inl fo)))]) (zPie (nI 1) (zWp g q qo a 1 (v))) 1 6 := by
  refine zMH.of (cc := cL_count) (nL := 4) (ret := (some .int)) (lv := [(0, .ref (q 0)), (1, .int x1), (2, .ref qo)]) (by decide) rfl (Nat.le_of_ble_eq_true rfl) rfl ?_
  intro E C0 F ht
  have C : zC g E cL_count RL wsL_count 4 (some .int) := C0
  clear C0
  refine z_aload_n C dL_count_0 2 rfl ?_
  refine z_iconst C (nI 0) dL_count_1 (by decide) ?_
  refine z_aload_n C dL_count_2 0 rfl ?_
  refine z_iload_n C dL_count_3 1 rfl ?_
  refine z_xcallV C F (zX.fr (x_X2_count_e1 l g q a bs wb pd gw hl9 hi.1 x1 h0) [] [(qo, .inl (zJ g, 1, .inr (.inl fo)))]) (cwV 1 C.ts gL_count_X2_count rfl rfl rfl (by decide +kernel) ⟨Nat.le_of_ble_eq_true rfl, Nat.le_of_ble_eq_true rfl⟩) (zapp_l wB_o) rfl rfl rfl (Nat.le_of_ble_eq_true rfl) dL_count_4 ⟨Nat.le_of_ble_eq_true rfl, Nat.le_of_ble_eq_true rfl⟩ (z_xcatch C [] ⟨0, 9, 12, 21⟩ [] (ht.trans rfl) (fun _ h9 => nomatch h9) (by decide) (by decide) (C.w 1 rfl) (z_cast C 17 rfl) (fun q9 => ?_))
  refine z_astore_n C dL_count_12 (by decide) [(3, .ref q9), (0, .ref (q 0)), (1, .int x1), (2, .ref qo)] rfl ?_
  refine z_iconst C (nI 1) dL_count_13 (by decide) ?_
  exact z_iretE C dL_count_14 rfl ⟨_, _, ⟨_, _, _, _, rfl, hs⟩, fun h => absurd h (by decide), rfl⟩
theorem w_count (l : Launch) (g : zG) (q : Nat → Nat) (a : zS) (bs : Nat → Int × Nat) (wb pd gw : Nat → Nat → Int) (qo : Nat) (fo : Nat → Int64) {v : Int32} {k : Nat} {a' : zS} (hl9 : l.stackTraces = false) (hi : zInv a) (hs : zSet a bs wb pd gw 0 0) (x1 : Int32) (h : sp_count a x1 k v a') : zMH g l yL_count wsL_count { frames := 8, cells := 1, slots := 6, locals := 132 } [.ref (q 0), .int x1, .ref qo] (wB g q a (zG0 a) bs wb pd gw ++ [(qo, .inl (zJ g, 1, .inr (.inl fo)))]) (zPie (nI k) (zWp g q qo a' k v)) 1 6 := by
  rcases h with ⟨w, h0, rfl, rfl, rfl, rfl⟩ | ⟨h0, rfl, rfl⟩
  · exact (w_count_0 l g q a' bs wb pd gw qo fo hl9 hi hs w h0).wide ⟨Nat.le_of_ble_eq_true rfl, Nat.le_of_ble_eq_true rfl, Nat.le_of_ble_eq_true rfl, Nat.le_of_ble_eq_true rfl⟩ ⟨Nat.le_of_ble_eq_true rfl, Nat.le_of_ble_eq_true rfl⟩
  · exact (w_count_1 l g q a' bs wb pd gw qo fo hl9 hi hs x1 h0 v).wide ⟨Nat.le_of_ble_eq_true rfl, Nat.le_of_ble_eq_true rfl, Nat.le_of_ble_eq_true rfl, Nat.le_of_ble_eq_true rfl⟩ ⟨Nat.le_of_ble_eq_true rfl, Nat.le_of_ble_eq_true rfl⟩
set_option maxRecDepth 100000 in
set_option maxHeartbeats 4000000 in
theorem w_would_0 (l : Launch) (g : zG) (q : Nat → Nat) (a : zS) (bs : Nat → Int × Nat) (wb pd gw : Nat → Nat → Int) (qo : Nat) (fo : Nat → Int64) (hl9 : l.stackTraces = false) (hi : zInv a) (hs : zSet a bs wb pd gw 0 0) (b : Nat) (j : Nat) (w : Nat) (h0 : b < zNb a) (h1 : j ≤ 999) (h2 : w ≤ 3) : zMH g l yL_would wsL_would { frames := 31, cells := 0, slots := 0, locals := 822 } [.ref (q 0), .int (nI b), .int (nI j), .int (nI w), .ref qo] (wB g q a (zG0 a) bs wb pd gw ++ [(qo, .inl (zJ g, 1, .inr (.inl fo)))]) (zPie (nI 0) (zWp g q qo a 0 (iZ (aWould a b j w)))) 0 0 := by
  refine zMH.of (cc := cL_would) (nL := 6) (ret := (some .int)) (lv := [(0, .ref (q 0)), (1, .int (nI b)), (2, .int (nI j)), (3, .int (nI w)), (4, .ref qo)]) (by decide) rfl (Nat.le_of_ble_eq_true rfl) rfl ?_
  intro E C0 F ht
  have C : zC g E cL_would RL wsL_would 6 (some .int) := C0
  clear C0
  refine z_aload C dL_would_0 4 rfl ?_
  refine z_iconst C (nI 0) dL_would_2 (by decide) ?_
  refine z_aload_n C dL_would_3 0 rfl ?_
  refine z_iload_n C dL_would_4 1 rfl ?_
  refine z_iload_n C dL_would_5 2 rfl ?_
  refine z_iload_n C dL_would_6 3 rfl ?_
  refine z_callV C (zM.fr (c_X2_would l g q a bs wb pd gw hi hs b j w h0 h1 h2) [] [(qo, .inl (zJ g, 1, .inr (.inl fo)))]) (cwV 3 C.ts gL_would_X2_would rfl rfl rfl (by decide +kernel) ⟨Nat.le_of_ble_eq_true rfl, Nat.le_of_ble_eq_true rfl⟩) (zapp_l wB_o) rfl rfl rfl (Nat.le_of_ble_eq_true rfl) dL_would_7 ⟨Nat.zero_le _, Nat.zero_le _⟩ ?_
  rintro _ _ ⟨_, ⟨rfl, bs2, wb2, pd2, gw2, rfl, hs2⟩, rfl⟩
  refine zW.eqw (ws2 := wB g q a (zG0 a) bs2 wb2 pd2 gw2 ++ [(qo, .inl (zJ g, 1, .inr (.inl fo)))]) rfl ?_
  refine z_i2l C dL_would_10 (v := (iZ (aWould a b j w)).toInt64) rfl ?_
  refine z_lastN C 20 rfl (by omega) (by decide) dL_would_11 (zapp_tl rfl) ?_
  refine z_goto C 23 dL_would_12 (by decide) ?_
  refine z_iconst C (nI 0) dL_would_23 (by decide) ?_
  exact z_iretE C dL_would_24 rfl ⟨_, _, ⟨_, _, _, _, rfl, hs2⟩, fun _ => rfl, rfl⟩
set_option maxRecDepth 100000 in
set_option maxHeartbeats 4000000 in
theorem w_would_1 (l : Launch) (g : zG) (q : Nat → Nat) (a : zS) (bs : Nat → Int × Nat) (wb pd gw : Nat → Nat → Int) (qo : Nat) (fo : Nat → Int64) (hl9 : l.stackTraces = false) (hi : zInv a) (hs : zSet a bs wb pd gw 0 0) (x1 : Int32) (x2 : Int32) (x3 : Int32) (h0 : zBad x1 (zNb a)) (v : Int32) : zMH g l yL_would wsL_would { frames := 31, cells := 1, slots := 6, locals := 822 } [.ref (q 0), .int x1, .int x2, .int x3, .ref qo] (wB g q a (zG0 a) bs wb pd gw ++ [(qo, .inl (zJ g, 1, .inr (.inl fo)))]) (zPie (nI 1) (zWp g q qo a 1 (v))) 1 6 := by
  refine zMH.of (cc := cL_would) (nL := 6) (ret := (some .int)) (lv := [(0, .ref (q 0)), (1, .int x1), (2, .int x2), (3, .int x3), (4, .ref qo)]) (by decide) rfl (Nat.le_of_ble_eq_true rfl) rfl ?_
  intro E C0 F ht
  have C : zC g E cL_would RL wsL_would 6 (some .int) := C0
  clear C0
  refine z_aload C dL_would_0 4 rfl ?_
  refine z_iconst C (nI 0) dL_would_2 (by decide) ?_
  refine z_aload_n C dL_would_3 0 rfl ?_
  refine z_iload_n C dL_would_4 1 rfl ?_
  refine z_iload_n C dL_would_5 2 rfl ?_
  refine z_iload_n C dL_would_6 3 rfl ?_
  refine z_xcallV C F (zX.fr (x_X2_would_e1 l g q a bs wb pd gw hl9 hi.1 x1 x2 x3 h0) [] [(qo, .inl (zJ g, 1, .inr (.inl fo)))]) (cwV 3 C.ts gL_would_X2_would rfl rfl rfl (by decide +kernel) ⟨Nat.le_of_ble_eq_true rfl, Nat.le_of_ble_eq_true rfl⟩) (zapp_l wB_o) rfl rfl rfl (Nat.le_of_ble_eq_true rfl) dL_would_7 ⟨Nat.le_of_ble_eq_true rfl, Nat.le_of_ble_eq_true rfl⟩ (z_xcatch C [] ⟨0, 12, 15, 21⟩ [⟨0, 12, 19, 13⟩] (ht.trans rfl) (fun _ h9 => nomatch h9) (by decide) (by decide) (C.w 1 rfl) (z_cast C 17 rfl) (fun q9 => ?_))
  refine z_astore C dL_would_15 (by decide) [(5, .ref q9), (0, .ref (q 0)), (1, .int x1), (2, .int x2), (3, .int x3), (4, .ref qo)] rfl ?_
  refine z_iconst C (nI 1) dL_would_17 (by decide) ?_
  exact z_iretE C dL_would_18 rfl ⟨_, _, ⟨_, _, _, _, rfl, hs⟩, fun h => absurd h (by decide), rfl⟩
set_option maxRecDepth 100000 in
set_option maxHeartbeats 4000000 in
theorem w_would_2 (l : Launch) (g : zG) (q : Nat → Nat) (a : zS) (bs : Nat → Int × Nat) (wb pd gw : Nat → Nat → Int) (qo : Nat) (fo : Nat → Int64) (hl9 : l.stackTraces = false) (hi : zInv a) (hs : zSet a bs wb pd gw 0 0) (b : Nat) (x2 : Int32) (x3 : Int32) (h0 : b < zNb a) (h1 : zBad x3 4) (v : Int32) : zMH g l yL_would wsL_would { frames := 31, cells := 1, slots := 6, locals := 822 } [.ref (q 0), .int (nI b), .int x2, .int x3, .ref qo] (wB g q a (zG0 a) bs wb pd gw ++ [(qo, .inl (zJ g, 1, .inr (.inl fo)))]) (zPie (nI 1) (zWp g q qo a 1 (v))) 1 6 := by
  refine zMH.of (cc := cL_would) (nL := 6) (ret := (some .int)) (lv := [(0, .ref (q 0)), (1, .int (nI b)), (2, .int x2), (3, .int x3), (4, .ref qo)]) (by decide) rfl (Nat.le_of_ble_eq_true rfl) rfl ?_
  intro E C0 F ht
  have C : zC g E cL_would RL wsL_would 6 (some .int) := C0
  clear C0
  refine z_aload C dL_would_0 4 rfl ?_
  refine z_iconst C (nI 0) dL_would_2 (by decide) ?_
  refine z_aload_n C dL_would_3 0 rfl ?_
  refine z_iload_n C dL_would_4 1 rfl ?_
  refine z_iload_n C dL_would_5 2 rfl ?_
  refine z_iload_n C dL_would_6 3 rfl ?_
  refine z_xcallV C F (zX.fr (x_X2_would_e2 l g q a bs wb pd gw hl9 hi.1 b x2 x3 h0 h1) [] [(qo, .inl (zJ g, 1, .inr (.inl fo)))]) (cwV 3 C.ts gL_would_X2_would rfl rfl rfl (by decide +kernel) ⟨Nat.le_of_ble_eq_true rfl, Nat.le_of_ble_eq_true rfl⟩) (zapp_l wB_o) rfl rfl rfl (Nat.le_of_ble_eq_true rfl) dL_would_7 ⟨Nat.le_of_ble_eq_true rfl, Nat.le_of_ble_eq_true rfl⟩ (z_xcatch C [] ⟨0, 12, 15, 21⟩ [⟨0, 12, 19, 13⟩] (ht.trans rfl) (fun _ h9 => nomatch h9) (by decide) (by decide) (C.w 1 rfl) (z_cast C 17 rfl) (fun q9 => ?_))
  refine z_astore C dL_would_15 (by decide) [(5, .ref q9), (0, .ref (q 0)), (1, .int (nI b)), (2, .int x2), (3, .int x3), (4, .ref qo)] rfl ?_
  refine z_iconst C (nI 1) dL_would_17 (by decide) ?_
  exact z_iretE C dL_would_18 rfl ⟨_, _, ⟨_, _, _, _, rfl, hs⟩, fun h => absurd h (by decide), rfl⟩
set_option maxRecDepth 100000 in
set_option maxHeartbeats 4000000 in
theorem w_would_3 (l : Launch) (g : zG) (q : Nat → Nat) (a : zS) (bs : Nat → Int × Nat) (wb pd gw : Nat → Nat → Int) (qo : Nat) (fo : Nat → Int64) (hl9 : l.stackTraces = false) (hi : zInv a) (hs : zSet a bs wb pd gw 0 0) (b : Nat) (w : Nat) (x2 : Int32) (h0 : b < zNb a) (h1 : w ≤ 3) (h2 : zBad x2 1000) (v : Int32) : zMH g l yL_would wsL_would { frames := 31, cells := 1, slots := 6, locals := 822 } [.ref (q 0), .int (nI b), .int x2, .int (nI w), .ref qo] (wB g q a (zG0 a) bs wb pd gw ++ [(qo, .inl (zJ g, 1, .inr (.inl fo)))]) (zPie (nI 2) (zWp g q qo a 2 (v))) 1 6 := by
  refine zMH.of (cc := cL_would) (nL := 6) (ret := (some .int)) (lv := [(0, .ref (q 0)), (1, .int (nI b)), (2, .int x2), (3, .int (nI w)), (4, .ref qo)]) (by decide) rfl (Nat.le_of_ble_eq_true rfl) rfl ?_
  intro E C0 F ht
  have C : zC g E cL_would RL wsL_would 6 (some .int) := C0
  clear C0
  refine z_aload C dL_would_0 4 rfl ?_
  refine z_iconst C (nI 0) dL_would_2 (by decide) ?_
  refine z_aload_n C dL_would_3 0 rfl ?_
  refine z_iload_n C dL_would_4 1 rfl ?_
  refine z_iload_n C dL_would_5 2 rfl ?_
  refine z_iload_n C dL_would_6 3 rfl ?_
  refine z_xcallV C F (zX.fr (x_X2_would_e3 l g q a bs wb pd gw hl9 hi.1 b x2 w h0 h1 h2) [] [(qo, .inl (zJ g, 1, .inr (.inl fo)))]) (cwV 3 C.ts gL_would_X2_would rfl rfl rfl (by decide +kernel) ⟨Nat.le_of_ble_eq_true rfl, Nat.le_of_ble_eq_true rfl⟩) (zapp_l wB_o) rfl rfl rfl (Nat.le_of_ble_eq_true rfl) dL_would_7 ⟨Nat.le_of_ble_eq_true rfl, Nat.le_of_ble_eq_true rfl⟩ (z_xcatch C [(⟨0, 12, 15, 21⟩ : ExceptionTableEntry)] ⟨0, 12, 19, 13⟩ [] (ht.trans rfl) (List.forall_mem_cons.mpr ⟨Or.inr ⟨by decide, _, (C.w 1 rfl), F.2.2.1⟩, (fun _ h9 => nomatch h9)⟩) (by decide) (by decide) (C.w 2 rfl) (z_cast C 16 rfl) (fun q9 => ?_))
  refine z_astore C dL_would_19 (by decide) [(5, .ref q9), (0, .ref (q 0)), (1, .int (nI b)), (2, .int x2), (3, .int (nI w)), (4, .ref qo)] rfl ?_
  refine z_iconst C (nI 2) dL_would_21 (by decide) ?_
  exact z_iretE C dL_would_22 rfl ⟨_, _, ⟨_, _, _, _, rfl, hs⟩, fun h => absurd h (by decide), rfl⟩
theorem w_would (l : Launch) (g : zG) (q : Nat → Nat) (a : zS) (bs : Nat → Int × Nat) (wb pd gw : Nat → Nat → Int) (qo : Nat) (fo : Nat → Int64) {v : Int32} {k : Nat} {a' : zS} (hl9 : l.stackTraces = false) (hi : zInv a) (hs : zSet a bs wb pd gw 0 0) (x1 x2 x3 : Int32) (h : sp_would a x1 x2 x3 k v a') : zMH g l yL_would wsL_would { frames := 31, cells := 1, slots := 6, locals := 822 } [.ref (q 0), .int x1, .int x2, .int x3, .ref qo] (wB g q a (zG0 a) bs wb pd gw ++ [(qo, .inl (zJ g, 1, .inr (.inl fo)))]) (zPie (nI k) (zWp g q qo a' k v)) 1 6 := by
  rcases h with ⟨b, j, w, h0, h1, h2, rfl, rfl, rfl, rfl, rfl, rfl⟩ | ⟨h0, rfl, rfl⟩ | ⟨b, h0, h1, rfl, rfl, rfl⟩ | ⟨b, w, h0, h1, h2, rfl, rfl, rfl, rfl⟩
  · exact (w_would_0 l g q a' bs wb pd gw qo fo hl9 hi hs b j w h0 h1 h2).wide ⟨Nat.le_of_ble_eq_true rfl, Nat.le_of_ble_eq_true rfl, Nat.le_of_ble_eq_true rfl, Nat.le_of_ble_eq_true rfl⟩ ⟨Nat.le_of_ble_eq_true rfl, Nat.le_of_ble_eq_true rfl⟩
  · exact (w_would_1 l g q a' bs wb pd gw qo fo hl9 hi hs x1 x2 x3 h0 v).wide ⟨Nat.le_of_ble_eq_true rfl, Nat.le_of_ble_eq_true rfl, Nat.le_of_ble_eq_true rfl, Nat.le_of_ble_eq_true rfl⟩ ⟨Nat.le_of_ble_eq_true rfl, Nat.le_of_ble_eq_true rfl⟩
  · exact (w_would_2 l g q a' bs wb pd gw qo fo hl9 hi hs b x2 x3 h0 h1 v).wide ⟨Nat.le_of_ble_eq_true rfl, Nat.le_of_ble_eq_true rfl, Nat.le_of_ble_eq_true rfl, Nat.le_of_ble_eq_true rfl⟩ ⟨Nat.le_of_ble_eq_true rfl, Nat.le_of_ble_eq_true rfl⟩
  · exact (w_would_3 l g q a' bs wb pd gw qo fo hl9 hi hs b w x2 h0 h1 h2 v).wide ⟨Nat.le_of_ble_eq_true rfl, Nat.le_of_ble_eq_true rfl, Nat.le_of_ble_eq_true rfl, Nat.le_of_ble_eq_true rfl⟩ ⟨Nat.le_of_ble_eq_true rfl, Nat.le_of_ble_eq_true rfl⟩
set_option maxRecDepth 100000 in
set_option maxHeartbeats 4000000 in
theorem w_least_0 (l : Launch) (g : zG) (q : Nat → Nat) (a : zS) (bs : Nat → Int × Nat) (wb pd gw : Nat → Nat → Int) (qo : Nat) (fo : Nat → Int64) (hl9 : l.stackTraces = false) (hi : zInv a) (hs : zSet a bs wb pd gw 0 0) (b : Nat) (h0 : b < zNb a) : zMH g l yL_least wsL_least { frames := 31, cells := 0, slots := 0, locals := 822 } [.ref (q 0), .int (nI b), .ref qo] (wB g q a (zG0 a) bs wb pd gw ++ [(qo, .inl (zJ g, 1, .inr (.inl fo)))]) (zPie (nI 0) (zWp g q qo a 0 (iZ (aLeast a b)))) 0 0 := by
  refine zMH.of (cc := cL_least) (nL := 4) (ret := (some .int)) (lv := [(0, .ref (q 0)), (1, .int (nI b)), (2, .ref qo)]) (by decide) rfl (Nat.le_of_ble_eq_true rfl) rfl ?_
  intro E C0 F ht
  have C : zC g E cL_least RL wsL_least 4 (some .int) := C0
  clear C0
  refine z_aload_n C dL_least_0 2 rfl ?_
  refine z_iconst C (nI 0) dL_least_1 (by decide) ?_
  refine z_aload_n C dL_least_2 0 rfl ?_
  refine z_iload_n C dL_least_3 1 rfl ?_
  refine z_callV C (zM.fr (c_X2_least l g q a bs wb pd gw hi hs b h0) [] [(qo, .inl (zJ g, 1, .inr (.inl fo)))]) (cwV 1 C.ts gL_least_X2_least rfl rfl rfl (by decide +kernel) ⟨Nat.le_of_ble_eq_true rfl, Nat.le_of_ble_eq_true rfl⟩) (zapp_l wB_o) rfl rfl rfl (Nat.le_of_ble_eq_true rfl) dL_least_4 ⟨Nat.zero_le _, Nat.zero_le _⟩ ?_
  rintro _ _ ⟨_, ⟨rfl, bs2, wb2, pd2, gw2, rfl, hs2⟩, rfl⟩
  refine zW.eqw (ws2 := wB g q a (zG0 a) bs2 wb2 pd2 gw2 ++ [(qo, .inl (zJ g, 1, .inr (.inl fo)))]) rfl ?_
  refine z_i2l C dL_least_7 (v := (iZ (aLeast a b)).toInt64) rfl ?_
  refine z_lastN C 20 rfl (by omega) (by decide) dL_least_8 (zapp_tl rfl) ?_
  refine z_goto C 15 dL_least_9 (by decide) ?_
  refine z_iconst C (nI 0) dL_least_15 (by decide) ?_
  exact z_iretE C dL_least_16 rfl ⟨_, _, ⟨_, _, _, _, rfl, hs2⟩, fun _ => rfl, rfl⟩
set_option maxRecDepth 100000 in
set_option maxHeartbeats 4000000 in
theorem w_least_1 (l : Launch) (g : zG) (q : Nat → Nat) (a : zS) (bs : Nat → Int × Nat) (wb pd gw : Nat → Nat → Int) (qo : Nat) (fo : Nat → Int64) (hl9 : l.stackTraces = false) (hi : zInv a) (hs : zSet a bs wb pd gw 0 0) (x1 : Int32) (h0 : zBad x1 (zNb a)) (v : Int32) : zMH g l yL_least wsL_least { frames := 31, cells := 1, slots := 6, locals := 822 } [.ref (q 0), .int x1, .ref qo] (wB g q a (zG0 a) bs wb pd gw ++ [(qo, .inl (zJ g, 1, .inr (.inl fo)))]) (zPie (nI 1) (zWp g q qo a 1 (v))) 1 6 := by
  refine zMH.of (cc := cL_least) (nL := 4) (ret := (some .int)) (lv := [(0, .ref (q 0)), (1, .int x1), (2, .ref qo)]) (by decide) rfl (Nat.le_of_ble_eq_true rfl) rfl ?_
  intro E C0 F ht
  have C : zC g E cL_least RL wsL_least 4 (some .int) := C0
  clear C0
  refine z_aload_n C dL_least_0 2 rfl ?_
  refine z_iconst C (nI 0) dL_least_1 (by decide) ?_
  refine z_aload_n C dL_least_2 0 rfl ?_
  refine z_iload_n C dL_least_3 1 rfl ?_
  refine z_xcallV C F (zX.fr (x_X2_least_e1 l g q a bs wb pd gw hl9 hi.1 x1 h0) [] [(qo, .inl (zJ g, 1, .inr (.inl fo)))]) (cwV 1 C.ts gL_least_X2_least rfl rfl rfl (by decide +kernel) ⟨Nat.le_of_ble_eq_true rfl, Nat.le_of_ble_eq_true rfl⟩) (zapp_l wB_o) rfl rfl rfl (Nat.le_of_ble_eq_true rfl) dL_least_4 ⟨Nat.le_of_ble_eq_true rfl, Nat.le_of_ble_eq_true rfl⟩ (z_xcatch C [] ⟨0, 9, 12, 21⟩ [] (ht.trans rfl) (fun _ h9 => nomatch h9) (by decide) (by decide) (C.w 1 rfl) (z_cast C 17 rfl) (fun q9 => ?_))
  refine z_astore_n C dL_least_12 (by decide) [(3, .ref q9), (0, .ref (q 0)), (1, .int x1), (2, .ref qo)] rfl ?_
  refine z_iconst C (nI 1) dL_least_13 (by decide) ?_
  exact z_iretE C dL_least_14 rfl ⟨_, _, ⟨_, _, _, _, rfl, hs⟩, fun h => absurd h (by decide), rfl⟩
theorem w_least (l : Launch) (g : zG) (q : Nat → Nat) (a : zS) (bs : Nat → Int × Nat) (wb pd gw : Nat → Nat → Int) (qo : Nat) (fo : Nat → Int64) {v : Int32} {k : Nat} {a' : zS} (hl9 : l.stackTraces = false) (hi : zInv a) (hs : zSet a bs wb pd gw 0 0) (x1 : Int32) (h : sp_least a x1 k v a') : zMH g l yL_least wsL_least { frames := 31, cells := 1, slots := 6, locals := 822 } [.ref (q 0), .int x1, .ref qo] (wB g q a (zG0 a) bs wb pd gw ++ [(qo, .inl (zJ g, 1, .inr (.inl fo)))]) (zPie (nI k) (zWp g q qo a' k v)) 1 6 := by
  rcases h with ⟨b, h0, rfl, rfl, rfl, rfl⟩ | ⟨h0, rfl, rfl⟩
  · exact (w_least_0 l g q a' bs wb pd gw qo fo hl9 hi hs b h0).wide ⟨Nat.le_of_ble_eq_true rfl, Nat.le_of_ble_eq_true rfl, Nat.le_of_ble_eq_true rfl, Nat.le_of_ble_eq_true rfl⟩ ⟨Nat.le_of_ble_eq_true rfl, Nat.le_of_ble_eq_true rfl⟩
  · exact (w_least_1 l g q a' bs wb pd gw qo fo hl9 hi hs x1 h0 v).wide ⟨Nat.le_of_ble_eq_true rfl, Nat.le_of_ble_eq_true rfl, Nat.le_of_ble_eq_true rfl, Nat.le_of_ble_eq_true rfl⟩ ⟨Nat.le_of_ble_eq_true rfl, Nat.le_of_ble_eq_true rfl⟩
