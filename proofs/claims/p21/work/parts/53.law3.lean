theorem zRf_AFn (a : zS) (r : Nat) : zRf (zAF a r) (zNf a) = r := by
  rw [zRf_AF]
  unfold zWh
  rw [if_neg (by omega), if_pos rfl]
def zIc (a : zS) (i : Nat) : Nat → Bool := fun j => decide (j < i) && zIn a j
theorem zIc_0 (a : zS) : (fun _ => nI 0) = fun j => bI (zIc a 0 j) := by
  funext j
  unfold zIc
  rw [decide_eq_false (Nat.not_lt_zero j)]; rfl
theorem zIc_s (a : zS) (i : Nat) : upd (fun j => bI (zIc a i j)) i (bI (zIn a i)) = fun j => bI (zIc a (i + 1) j) := by
  rw [zup_B]
  funext j
  congr 1
  show (if j = i then zIn a i else decide (j < i) && zIn a j) = (decide (j < i + 1) && zIn a j)
  by_cases h : j = i
  · subst h; rw [if_pos rfl, decide_eq_true (Nat.lt_succ_self j)]; rfl
  · rw [if_neg h]
    by_cases h2 : j < i
    · rw [decide_eq_true h2, decide_eq_true (show j < i + 1 by omega)]
    · rw [decide_eq_false h2, decide_eq_false (show ¬ j < i + 1 by omega)]
theorem zIc_nd (a : zS) : zIc a (zNd a) = zIn a := by
  funext j
  unfold zIc zIn
  cases decide (j < zNd a) <;> rfl
theorem zIc_e {a : zS} (ha : zOk a) : upd (fun j => bI (zIc a (zNd a) j)) (zNd a) (bI true) = fun j => bI (zIn (zSetNd a (zNd a + 1)) j) := by
  rw [zup_B, zIc_nd, zIn_join ha]
theorem inL_act_X3 : ∀ w ∈ wsX30, w ∈ wsL_act := fun w h => List.mem_cons_of_mem _ (List.mem_append_left _ (List.mem_append_left _ (List.mem_append_left _ (List.mem_append_left _ (List.mem_append_left _ (List.mem_append_left _ (List.mem_append_right _ (h))))))))
set_option maxRecDepth 100000 in
set_option maxHeartbeats 4000000 in
theorem act_124 (l : Launch) (g : zG) (q p : Nat → Nat) (a : zS) (bs : Nat → Int × Nat) (wb pd gw : Nat → Nat → Int) (sm : Int × Nat × Nat) (x : Int32) (hi9 : zInv a) (hs : zSet a bs wb pd gw 0 0) (E : zEnv) (C : zC g E cL_act RL wsL_act 20 (some .boolean)) (b pr : Nat) (hb : zNb a = 0 ∨ b < zNb a) (hp : pr ≤ 999) : zW g l ({ frames := 31, cells := 2, slots := 17, locals := 822 }) E (zMQ g E (zPie (bI true) (zBoth g q (p 0))) 2 17) 20 0 0 (wB g q a (zG0 a) bs wb pd gw ++ (wS g p a sm)) [(0, .ref (q 0)), (1, .ref (p 0)), (2, .int x), (3, .int (nI (zNf a))), (4, .int (nI (zNd a))), (5, .int (nI (zNb a))), (6, .int (nI b)), (7, .int (nI pr))] [] 124 := by
  have ha := hi9.1
  obtain ⟨hnf, hnd, hnb, hou, hrs, hbd⟩ := id ha
  refine z_iload_n C dL_act_124 3 rfl ?_
  refine z_bipush C (nI 8) dL_act_125 (by decide) ?_
  refine z_icmp_ne C 132 dL_act_127 (by decide) (zeq_NN (by omega) (by omega)) (fun c_127 => ?_) (fun c_127 => ?_)
  · skip
    refine z_aload_n C dL_act_132 1 rfl ?_
    refine z_aload_n C dL_act_133 1 rfl ?_
    refine z_get C inL_act_X3 (20 + 0) (zapp_B wS_o) rfl 0 (by decide) (C.w 1 rfl) rfl dL_act_134 ?_
    refine z_iload_n C dL_act_137 2 rfl ?_
    refine z_iconst C (nI 1) dL_act_138 (by decide) ?_
    refine z_ishr C dL_act_139 (v := (x >>> ((nI 1) &&& 31))) rfl ?_
    refine z_iload_n C dL_act_140 2 rfl ?_
    refine z_iconst C (nI 2) dL_act_141 (by decide) ?_
    refine z_callS C (c_L_below l g (wB g q a (zG0 a) bs wb pd gw ++ (wS g p a sm)) x 2 (by omega) (by omega)) (va_cwS 2 C.ts gL_act_L_below rfl rfl rfl (by decide +kernel) ⟨Nat.le_of_ble_eq_true rfl, Nat.le_of_ble_eq_true rfl⟩) rfl rfl (Nat.le_of_ble_eq_true rfl) dL_act_142 ⟨by dsimp only; omega, by dsimp only; omega⟩ ?_
    rintro _ _ ⟨rfl, rfl⟩
    refine zW.eqst (st2 := [.int (nI (zBe x 2)), .int (x >>> ((nI 1) &&& 31)), .ref (p 1), .ref (p 0)]) rfl ?_
    obtain ⟨r142, hr142, hl142⟩ : ∃ r, zBe x 2 = r ∧ r < 2 := ⟨_, rfl, zBe_lt _ (by omega)⟩
    refine zW.top (y := nI r142) (congrArg nI hr142) ?_
    refine z_if_ne C 153 dL_act_145 (by decide) (zeq_N0 (by omega)) (fun c_145 => ?_) (fun c_145 => ?_)
    · skip
      refine z_bipush C (nI 20) dL_act_153 (by decide) ?_
      refine z_callS C (c_L_below l g (wB g q a (zG0 a) bs wb pd gw ++ (wS g p a sm)) (x >>> ((nI 1) &&& 31)) 20 (by omega) (by omega)) (va_cwS 2 C.ts gL_act_L_below rfl rfl rfl (by decide +kernel) ⟨Nat.le_of_ble_eq_true rfl, Nat.le_of_ble_eq_true rfl⟩) rfl rfl (Nat.le_of_ble_eq_true rfl) dL_act_155 ⟨by dsimp only; omega, by dsimp only; omega⟩ ?_
      rintro _ _ ⟨rfl, rfl⟩
      refine zW.eqst (st2 := [.int (nI (zBe (x >>> ((nI 1) &&& 31)) 20)), .ref (p 1), .ref (p 0)]) rfl ?_
      obtain ⟨r155, hr155, hl155⟩ : ∃ r, zBe (x >>> ((nI 1) &&& 31)) 20 = r ∧ r < 20 := ⟨_, rfl, zBe_lt _ (by omega)⟩
      refine zW.top (y := nI r155) (congrArg nI hr155) ?_
      refine z_callS C (c_L_with l g (wB g q a (zG0 a) bs wb pd gw ++ (wS g p a sm)) (20 + 1) (p 1) (zNf a) (zRf a) r155 (zapp_B wS_rs) (by omega)) (va_cwS 2 C.ts gL_act_L_with rfl rfl rfl (by decide +kernel) ⟨Nat.le_of_ble_eq_true rfl, Nat.le_of_ble_eq_true rfl⟩) rfl rfl (Nat.le_of_ble_eq_true rfl) dL_act_158 ⟨by dsimp only; omega, by dsimp only; omega⟩ ?_
      rintro _ _ ⟨x158, rfl, rfl⟩
      refine zW.eqst (st2 := [.ref x158, .ref (p 0)]) rfl ?_
      refine zW.eqw (ws2 := wB g q a (zG0 a) bs wb pd gw ++ (wS g p a sm ++ [(x158, .inl (zI g, zNf a + 1, .inl (fun j => nI (zWh (zNf a) (zRf a) r155 j))))])) (List.append_assoc _ _ _) ?_
      refine z_put C inL_act_X3 tyX3_ok nmX3 (20 + 0) (zapp_B (zapp_l wS_o)) rfl 0 (by decide) (C.w 1 rfl) rfl (tyX3_ok 0 (by decide)) rfl rfl (Nat.le_of_ble_eq_true rfl) dL_act_161 (zset_B rfl) ?_
      refine zNewRs (a := a) (r := r155) (fun p2 hp2 => ?_)
      have h1 : zInv (zAF a r155) := zInv_new hi9 (by omega) (by omega)
      have hnf2 : zNf (zAF a r155) = zNf a + 1 := rfl
      refine zW.lve (lv' := [(0, .ref (q 0)), (1, .ref (p2 0)), (2, .int x), (3, .int (nI (zNf a))), (4, .int (nI (zNd a))), (5, .int (nI (zNb a))), (6, .int (nI b)), (7, .int (nI pr))]) (by rw [hp2]) ?_
      refine z_aload_n C dL_act_164 0 rfl ?_
      refine z_aload_n C dL_act_165 1 rfl ?_
      refine z_get C inL_act_X3 (20 + 0) (zapp_B wS_o) rfl 0 (by decide) (C.w 1 rfl) rfl dL_act_166 ?_
      refine z_iload_n C dL_act_169 3 rfl ?_
      refine z_ialdN C (20 + 1) (zapp_B wS_rs) (by omega) (by omega) dL_act_170 (v := nI (zRf (zAF a r155) (zNf a))) rfl ?_
      have f_170b := zRf_le h1.1 (zNf a)
      refine zW.top (y := nI r155) (congrArg nI (zRf_AFn a r155)) ?_
      refine z_callV C (zM.fl (c_X2_field l g q a bs wb pd gw hi9 hs r155 (by omega) (by omega)) (wS g p2 (zAF a r155) sm)) (cwV 1 C.ts gL_act_X2_field rfl rfl rfl (by decide +kernel) ⟨Nat.le_of_ble_eq_true rfl, Nat.le_of_ble_eq_true rfl⟩) (zapp_l wB_o) rfl rfl rfl (Nat.le_of_ble_eq_true rfl) dL_act_171 ⟨by dsimp only; omega, by dsimp only; omega⟩ ?_
      rintro _ _ ⟨_, ⟨rfl, bs1, wb1, pd1, gw1, rfl, hs1⟩, rfl⟩
      refine zW.eqst (st2 := [.int (nI (zNf a))]) rfl ?_
      refine z_iload_n C dL_act_174 3 rfl ?_
      refine z_icmp_ne C 182 dL_act_175 (by decide) (zeq_NN (by omega) (by omega)) (fun h9 => absurd rfl h9) (fun c_175 => ?_)
      refine z_iconst C (nI 1) dL_act_178 (by decide) ?_
      refine z_goto C 183 dL_act_179 (by decide) ?_
      refine zW.wid (k := 2) (n := 17) (by omega) (by omega) ?_
      exact z_zretE (b := true) C dL_act_183 rfl ⟨_, _, _, _, _, _, _, rfl, hp2, h1, hs1⟩
    · skip
      refine z_bipush C (nI 100) dL_act_148 (by decide) ?_
      refine z_goto C 155 dL_act_150 (by decide) ?_
      refine z_callS C (c_L_below l g (wB g q a (zG0 a) bs wb pd gw ++ (wS g p a sm)) (x >>> ((nI 1) &&& 31)) 100 (by omega) (by omega)) (va_cwS 2 C.ts gL_act_L_below rfl rfl rfl (by decide +kernel) ⟨Nat.le_of_ble_eq_true rfl, Nat.le_of_ble_eq_true rfl⟩) rfl rfl (Nat.le_of_ble_eq_true rfl) dL_act_155 ⟨by dsimp only; omega, by dsimp only; omega⟩ ?_
      rintro _ _ ⟨rfl, rfl⟩
      refine zW.eqst (st2 := [.int (nI (zBe (x >>> ((nI 1) &&& 31)) 100)), .ref (p 1), .ref (p 0)]) rfl ?_
      obtain ⟨r155, hr155, hl155⟩ : ∃ r, zBe (x >>> ((nI 1) &&& 31)) 100 = r ∧ r < 100 := ⟨_, rfl, zBe_lt _ (by omega)⟩
      refine zW.top (y := nI r155) (congrArg nI hr155) ?_
      refine z_callS C (c_L_with l g (wB g q a (zG0 a) bs wb pd gw ++ (wS g p a sm)) (20 + 1) (p 1) (zNf a) (zRf a) r155 (zapp_B wS_rs) (by omega)) (va_cwS 2 C.ts gL_act_L_with rfl rfl rfl (by decide +kernel) ⟨Nat.le_of_ble_eq_true rfl, Nat.le_of_ble_eq_true rfl⟩) rfl rfl (Nat.le_of_ble_eq_true rfl) dL_act_158 ⟨by dsimp only; omega, by dsimp only; omega⟩ ?_
      rintro _ _ ⟨x158, rfl, rfl⟩
      refine zW.eqst (st2 := [.ref x158, .ref (p 0)]) rfl ?_
      refine zW.eqw (ws2 := wB g q a (zG0 a) bs wb pd gw ++ (wS g p a sm ++ [(x158, .inl (zI g, zNf a + 1, .inl (fun j => nI (zWh (zNf a) (zRf a) r155 j))))])) (List.append_assoc _ _ _) ?_
      refine z_put C inL_act_X3 tyX3_ok nmX3 (20 + 0) (zapp_B (zapp_l wS_o)) rfl 0 (by decide) (C.w 1 rfl) rfl (tyX3_ok 0 (by decide)) rfl rfl (Nat.le_of_ble_eq_true rfl) dL_act_161 (zset_B rfl) ?_
      refine zNewRs (a := a) (r := r155) (fun p2 hp2 => ?_)
      have h1 : zInv (zAF a r155) := zInv_new hi9 (by omega) (by omega)
      have hnf2 : zNf (zAF a r155) = zNf a + 1 := rfl
      refine zW.lve (lv' := [(0, .ref (q 0)), (1, .ref (p2 0)), (2, .int x), (3, .int (nI (zNf a))), (4, .int (nI (zNd a))), (5, .int (nI (zNb a))), (6, .int (nI b)), (7, .int (nI pr))]) (by rw [hp2]) ?_
      refine z_aload_n C dL_act_164 0 rfl ?_
      refine z_aload_n C dL_act_165 1 rfl ?_
      refine z_get C inL_act_X3 (20 + 0) (zapp_B wS_o) rfl 0 (by decide) (C.w 1 rfl) rfl dL_act_166 ?_
      refine z_iload_n C dL_act_169 3 rfl ?_
      refine z_ialdN C (20 + 1) (zapp_B wS_rs) (by omega) (by omega) dL_act_170 (v := nI (zRf (zAF a r155) (zNf a))) rfl ?_
      have f_170b := zRf_le h1.1 (zNf a)
      refine zW.top (y := nI r155) (congrArg nI (zRf_AFn a r155)) ?_
      refine z_callV C (zM.fl (c_X2_field l g q a bs wb pd gw hi9 hs r155 (by omega) (by omega)) (wS g p2 (zAF a r155) sm)) (cwV 1 C.ts gL_act_X2_field rfl rfl rfl (by decide +kernel) ⟨Nat.le_of_ble_eq_true rfl, Nat.le_of_ble_eq_true rfl⟩) (zapp_l wB_o) rfl rfl rfl (Nat.le_of_ble_eq_true rfl) dL_act_171 ⟨by dsimp only; omega, by dsimp only; omega⟩ ?_
      rintro _ _ ⟨_, ⟨rfl, bs1, wb1, pd1, gw1, rfl, hs1⟩, rfl⟩
      refine zW.eqst (st2 := [.int (nI (zNf a))]) rfl ?_
      refine z_iload_n C dL_act_174 3 rfl ?_
      refine z_icmp_ne C 182 dL_act_175 (by decide) (zeq_NN (by omega) (by omega)) (fun h9 => absurd rfl h9) (fun c_175 => ?_)
      refine z_iconst C (nI 1) dL_act_178 (by decide) ?_
      refine z_goto C 183 dL_act_179 (by decide) ?_
      refine zW.wid (k := 2) (n := 17) (by omega) (by omega) ?_
      exact z_zretE (b := true) C dL_act_183 rfl ⟨_, _, _, _, _, _, _, rfl, hp2, h1, hs1⟩
  · skip
    refine z_iconst C (nI 1) dL_act_130 (by decide) ?_
    refine zW.wid (k := 2) (n := 17) (by omega) (by omega) ?_
    exact z_zretE (b := true) C dL_act_131 rfl ⟨_, _, _, _, _, _, _, rfl, rfl, hi9, hs⟩
set_option maxRecDepth 100000 in
set_option maxHeartbeats 4000000 in
theorem act_184 (l : Launch) (g : zG) (q p : Nat → Nat) (a : zS) (bs : Nat → Int × Nat) (wb pd gw : Nat → Nat → Int) (sm : Int × Nat × Nat) (x : Int32) (hi9 : zInv a) (hs : zSet a bs wb pd gw 0 0) (E : zEnv) (C : zC g E cL_act RL wsL_act 20 (some .boolean)) (b pr : Nat) (hb : zNb a = 0 ∨ b < zNb a) (hp : pr ≤ 999) : zW g l ({ frames := 31, cells := 2, slots := 17, locals := 822 }) E (zMQ g E (zPie (bI true) (zBoth g q (p 0))) 2 17) 20 0 0 (wB g q a (zG0 a) bs wb pd gw ++ (wS g p a sm)) [(0, .ref (q 0)), (1, .ref (p 0)), (2, .int x), (3, .int (nI (zNf a))), (4, .int (nI (zNd a))), (5, .int (nI (zNb a))), (6, .int (nI b)), (7, .int (nI pr))] [] 184 := by
  have ha := hi9.1
  obtain ⟨hnf, hnd, hnb, hou, hrs, hbd⟩ := id ha
  refine z_iload_n C dL_act_184 3 rfl ?_
  refine z_if_ne C 190 dL_act_185 (by decide) (zeq_N0 (by omega)) (fun c_185 => ?_) (fun c_185 => ?_)
  · skip
    refine z_iload_n C dL_act_190 2 rfl ?_
    refine z_iconst C (nI 1) dL_act_191 (by decide) ?_
    refine z_ishr C dL_act_192 (v := (x >>> ((nI 1) &&& 31))) rfl ?_
    refine z_iload_n C dL_act_193 3 rfl ?_
    refine z_callS C (c_L_below l g (wB g q a (zG0 a) bs wb pd gw ++ (wS g p a sm)) (x >>> ((nI 1) &&& 31)) (zNf a) (by omega) (by omega)) (va_cwS 2 C.ts gL_act_L_below rfl rfl rfl (by decide +kernel) ⟨Nat.le_of_ble_eq_true rfl, Nat.le_of_ble_eq_true rfl⟩) rfl rfl (Nat.le_of_ble_eq_true rfl) dL_act_194 ⟨by dsimp only; omega, by dsimp only; omega⟩ ?_
    rintro _ _ ⟨rfl, rfl⟩
    refine zW.eqst (st2 := [.int (nI (zBe (x >>> ((nI 1) &&& 31)) (zNf a)))]) rfl ?_
    obtain ⟨r194, hr194, hl194⟩ : ∃ r, zBe (x >>> ((nI 1) &&& 31)) (zNf a) = r ∧ r < zNf a := ⟨_, rfl, zBe_lt _ (by omega)⟩
    refine zW.top (y := nI r194) (congrArg nI hr194) ?_
    refine z_istore C dL_act_197 (by decide) [(8, .int (nI r194)), (0, .ref (q 0)), (1, .ref (p 0)), (2, .int x), (3, .int (nI (zNf a))), (4, .int (nI (zNd a))), (5, .int (nI (zNb a))), (6, .int (nI b)), (7, .int (nI pr))] rfl ?_
    refine z_aload_n C dL_act_199 2 rfl ?_
    refine z_get C inL_act_X3 (20 + 0) (zapp_B wS_o) rfl 0 (by decide) (C.w 1 rfl) rfl dL_act_200 ?_
    refine z_iload C dL_act_203 0 rfl ?_
    refine z_ialdN C (20 + 1) (zapp_B wS_rs) (by omega) (by omega) dL_act_205 (v := nI (zRf a r194)) rfl ?_
    have f_205b := zRf_le ha r194
    have hz9 := ha.rs (f := r194) (by omega)
    refine zW.top (y := nI (zRs a r194)) (congrArg nI (zRf_at (by omega))) ?_
    refine z_istore C dL_act_206 (by decide) [(9, .int (nI (zRs a r194))), (8, .int (nI r194)), (0, .ref (q 0)), (1, .ref (p 0)), (2, .int x), (3, .int (nI (zNf a))), (4, .int (nI (zNd a))), (5, .int (nI (zNb a))), (6, .int (nI b)), (7, .int (nI pr))] rfl ?_
    refine z_aload_n C dL_act_208 3 rfl ?_
    refine z_get C inL_act_X3 (20 + 0) (zapp_B wS_o) rfl 0 (by decide) (C.w 1 rfl) rfl dL_act_209 ?_
    refine z_iload C dL_act_212 1 rfl ?_
    refine z_iload_n C dL_act_214 4 rfl ?_
    refine z_iconst C (nI 2) dL_act_215 (by decide) ?_
    refine z_ishr C dL_act_216 (v := (x >>> ((nI 2) &&& 31))) rfl ?_
    refine z_bipush C (nI 100) dL_act_217 (by decide) ?_
    refine z_callS C (c_L_below l g (wB g q a (zG0 a) bs wb pd gw ++ (wS g p a sm)) (x >>> ((nI 2) &&& 31)) 100 (by omega) (by omega)) (va_cwS 2 C.ts gL_act_L_below rfl rfl rfl (by decide +kernel) ⟨Nat.le_of_ble_eq_true rfl, Nat.le_of_ble_eq_true rfl⟩) rfl rfl (Nat.le_of_ble_eq_true rfl) dL_act_219 ⟨by dsimp only; omega, by dsimp only; omega⟩ ?_
    rintro _ _ ⟨rfl, rfl⟩
    refine zW.eqst (st2 := [.int (nI (zBe (x >>> ((nI 2) &&& 31)) 100)), .int (nI r194), .ref (p 1)]) rfl ?_
    obtain ⟨r219, hr219, hl219⟩ : ∃ r, zBe (x >>> ((nI 2) &&& 31)) 100 = r ∧ r < 100 := ⟨_, rfl, zBe_lt _ (by omega)⟩
    refine zW.top (y := nI r219) (congrArg nI hr219) ?_
    refine z_iastN C (20 + 1) (zapp_B wS_rs) (by omega) (by omega) dL_act_222 (zset_B (wS_set_rs (by omega) r219)) ?_
    have h1 : zInv (zSetRs a r194 r219) := zInv_setRs hi9 (by omega)
    have hnf2 : zNf (zSetRs a r194 r219) = zNf a := rfl
    refine z_aload_n C dL_act_223 2 rfl ?_
    refine z_iload C dL_act_224 1 rfl ?_
    refine z_aload_n C dL_act_226 3 rfl ?_
    refine z_get C inL_act_X3 (20 + 0) (zapp_B wS_o) rfl 0 (by decide) (C.w 1 rfl) rfl dL_act_227 ?_
    refine z_iload C dL_act_230 1 rfl ?_
    refine z_ialdN C (20 + 1) (zapp_B wS_rs) (by omega) (by omega) dL_act_232 (v := nI (zRf (zSetRs a r194 r219) r194)) rfl ?_
    have f_232b := zRf_le h1.1 r194
    refine zW.top (y := nI r219) (by rw [zRf_at (show r194 < zNf (zSetRs a r194 r219) by omega)]; show nI (va_up (zRs a) r194 r219 r194) = _; rw [va_up_self]) ?_
    refine z_callV C (zM.fl (c_X2_setReserve l g q a bs wb pd gw hi9 hs r194 r219 (by omega) (by omega)) (wS g p (zSetRs a r194 r219) sm)) (cwV 2 C.ts gL_act_X2_setReserve rfl rfl rfl (by decide +kernel) ⟨Nat.le_of_ble_eq_true rfl, Nat.le_of_ble_eq_true rfl⟩) (zapp_l wB_o) rfl rfl rfl (Nat.le_of_ble_eq_true rfl) dL_act_233 ⟨by dsimp only; omega, by dsimp only; omega⟩ ?_
    rintro _ _ ⟨_, ⟨rfl, bs1, wb1, pd1, gw1, rfl, hs1⟩, rfl⟩
    refine zW.eqst (st2 := [.int (nI (zRs a r194))]) rfl ?_
    refine z_iload C dL_act_236 0 rfl ?_
    refine z_icmp_ne C 245 dL_act_238 (by decide) (zeq_NN (by omega) (by omega)) (fun h9 => absurd rfl h9) (fun c_238 => ?_)
    refine z_iconst C (nI 1) dL_act_241 (by decide) ?_
    refine z_goto C 246 dL_act_242 (by decide) ?_
    refine zW.wid (k := 2) (n := 17) (by omega) (by omega) ?_
    exact z_zretE (b := true) C dL_act_246 rfl ⟨_, _, _, _, _, _, _, rfl, rfl, h1, hs1⟩
  · skip
    refine z_iconst C (nI 1) dL_act_188 (by decide) ?_
    refine zW.wid (k := 2) (n := 17) (by omega) (by omega) ?_
    exact z_zretE (b := true) C dL_act_189 rfl ⟨_, _, _, _, _, _, _, rfl, rfl, hi9, hs⟩
set_option maxRecDepth 100000 in
set_option maxHeartbeats 4000000 in
theorem act_247 (l : Launch) (g : zG) (q p : Nat → Nat) (a : zS) (bs : Nat → Int × Nat) (wb pd gw : Nat → Nat → Int) (sm : Int × Nat × Nat) (x : Int32) (hi9 : zInv a) (hs : zSet a bs wb pd gw 0 0) (E : zEnv) (C : zC g E cL_act RL wsL_act 20 (some .boolean)) (b pr : Nat) (hb : zNb a = 0 ∨ b < zNb a) (hp : pr ≤ 999) : zW g l ({ frames := 31, cells := 2, slots := 17, locals := 822 }) E (zMQ g E (zPie (bI true) (zBoth g q (p 0))) 2 17) 20 0 0 (wB g q a (zG0 a) bs wb pd gw ++ (wS g p a sm)) [(0, .ref (q 0)), (1, .ref (p 0)), (2, .int x), (3, .int (nI (zNf a))), (4, .int (nI (zNd a))), (5, .int (nI (zNb a))), (6, .int (nI b)), (7, .int (nI pr))] [] 247 := by
  have ha := hi9.1
  obtain ⟨hnf, hnd, hnb, hou, hrs, hbd⟩ := id ha
  refine z_iload C dL_act_247 4 rfl ?_
  refine z_iconst C (nI 5) dL_act_249 (by decide) ?_
  refine z_icmp_ne C 255 dL_act_250 (by decide) (zeq_NN (by omega) (by omega)) (fun c_250 => ?_) (fun c_250 => ?_)
  · skip
    refine z_iload C dL_act_255 4 rfl ?_
    refine z_iconst C (nI 1) dL_act_257 (by decide) ?_
    refine z_iadd C dL_act_258 (v := nI ((zNd a) + 1)) (nI_add (zNd a) 1) ?_
    refine z_newaZ C (C.w 4 rfl) (n := (zNd a) + 1) (by omega) (by dsimp only; omega) (by dsimp only; omega) dL_act_259 (fun x259 => ?_)
    refine zW.eqw (ws2 := wB g q a (zG0 a) bs wb pd gw ++ (wS g p a sm ++ [(x259, .inl (zZ g, (zNd a) + 1, .inl (fun _ => nI 0)))])) (List.append_assoc _ _ _) ?_
    refine z_astore C dL_act_261 (by decide) [(10, .ref x259), (0, .ref (q 0)), (1, .ref (p 0)), (2, .int x), (3, .int (nI (zNf a))), (4, .int (nI (zNd a))), (5, .int (nI (zNb a))), (6, .int (nI b)), (7, .int (nI pr))] rfl ?_
    refine z_iconst C (nI 0) dL_act_263 (by decide) ?_
    refine z_istore C dL_act_264 (by decide) [(11, .int (nI 0)), (10, .ref x259), (0, .ref (q 0)), (1, .ref (p 0)), (2, .int x), (3, .int (nI (zNf a))), (4, .int (nI (zNd a))), (5, .int (nI (zNb a))), (6, .int (nI b)), (7, .int (nI pr))] rfl ?_
    rw [zIc_0 a]
    refine zW.pick (lv' := [(0, .ref (q 0)), (1, .ref (p 0)), (4, .int (nI (zNd a))), (10, .ref x259), (11, .int (nI 0))]) [2, 3, 6, 1, 0] rfl ?_
    have hlp266 : ∀ (k i : Nat), i + k = zNd a → zW g l ({ frames := 31, cells := 2, slots := 17, locals := 822 }) E (zMQ g E (zPie (bI true) (zBoth g q (p 0))) 2 17) 20 (0 + 1) (0 + ((zNd a) + 1)) (wB g q a (zG0 a) bs wb pd gw ++ (wS g p a sm ++ [(x259, .inl (zZ g, (zNd a) + 1, .inl (fun j => bI (zIc a i j))))])) [(0, .ref (q 0)), (1, .ref (p 0)), (4, .int (nI (zNd a))), (10, .ref x259), (11, .int (nI i))] [] 266 := by
      intro k
      induction k with
      | zero =>
        intro i hik
        refine z_iload C dL_act_266 4 rfl ?_
        refine z_iload C dL_act_268 2 rfl ?_
        refine z_icmp_ge C 291 dL_act_270 (by decide) (zle_NN (by omega) (by omega)) (fun c_270 => ?_) (fun h9 => absurd (by omega) h9)
        rw [show i = zNd a by omega]
        refine z_aload C dL_act_291 3 rfl ?_
        refine z_iload C dL_act_293 2 rfl ?_
        refine z_iconst C (nI 1) dL_act_295 (by decide) ?_
        refine z_zastN C (20 + ((wS g p a sm).length + 0)) (zapp_B (zapp_r (k := 0) rfl)) (by omega) (by omega) (show vp_nar .boolean (nI 1) = bI true from rfl) dL_act_296 (zset_B (zapp_setk (k := 0) (by rw [zIc_e ha] <;> rfl))) ?_
        refine z_aload_n C dL_act_297 1 rfl ?_
        refine z_aload C dL_act_298 3 rfl ?_
        refine z_put C inL_act_X3 tyX3_ok nmX3 (20 + 0) (zapp_B (zapp_l wS_o)) rfl 1 (by decide) (C.w 2 rfl) rfl (tyX3_ok 1 (by decide)) rfl rfl (Nat.le_of_ble_eq_true rfl) dL_act_300 (zset_B rfl) ?_
        refine zNewIn ha (fun p2 hp2 => ?_)
        have h1 : zInv (zSetNd a (zNd a + 1)) := zInv_join hi9 (by omega)
        refine zW.lve (lv' := [(0, .ref (q 0)), (1, .ref (p2 0)), (4, .int (nI (zNd a))), (10, .ref x259), (11, .int (nI (zNd a)))]) (by rw [hp2]) ?_
        refine z_aload_n C dL_act_303 0 rfl ?_
        refine z_callV C (zM.fl (c_X2_join l g q a bs wb pd gw hi9 hs (by omega)) (wS g p2 (zSetNd a (zNd a + 1)) sm)) (cwV 0 C.ts gL_act_X2_join rfl rfl rfl (by decide +kernel) ⟨Nat.le_of_ble_eq_true rfl, Nat.le_of_ble_eq_true rfl⟩) (zapp_l wB_o) rfl rfl rfl (Nat.le_of_ble_eq_true rfl) dL_act_304 ⟨by dsimp only; omega, by dsimp only; omega⟩ ?_
        rintro _ _ ⟨_, ⟨rfl, bs1, wb1, pd1, gw1, rfl, hs1⟩, rfl⟩
        refine zW.eqst (st2 := [.int (nI (zNd a))]) rfl ?_
        refine z_iload C dL_act_307 2 rfl ?_
        refine z_icmp_ne C 316 dL_act_309 (by decide) (zeq_NN (by omega) (by omega)) (fun h9 => absurd rfl h9) (fun c_309 => ?_)
        refine z_iconst C (nI 1) dL_act_312 (by decide) ?_
        refine z_goto C 317 dL_act_313 (by decide) ?_
        refine zW.wid (k := 2) (n := 17) (by omega) (by omega) ?_
        exact z_zretE (b := true) C dL_act_317 rfl ⟨_, _, _, _, _, _, _, rfl, hp2, h1, hs1⟩
      | succ k ih266 =>
        intro i hik
        refine z_iload C dL_act_266 4 rfl ?_
        refine z_iload C dL_act_268 2 rfl ?_
        refine z_icmp_ge C 291 dL_act_270 (by decide) (zle_NN (by omega) (by omega)) (fun h9 => absurd h9 (by omega)) (fun c_270 => ?_)
        refine z_aload C dL_act_273 3 rfl ?_
        refine z_iload C dL_act_275 4 rfl ?_
        refine z_aload_n C dL_act_277 1 rfl ?_
        refine z_get C inL_act_X3 (20 + 0) (zapp_B (zapp_l wS_o)) rfl 1 (by decide) (C.w 2 rfl) rfl dL_act_278 ?_
        refine z_iload C dL_act_281 4 rfl ?_
        refine z_zaldN C (20 + 2) (zapp_B (zapp_l wS_in)) (by omega) (by omega) dL_act_283 (v := bI (zIn a i)) rfl ?_
        refine z_zastN C (20 + ((wS g p a sm).length + 0)) (zapp_B (zapp_r (k := 0) rfl)) (by omega) (by omega) (zbI_vp _) dL_act_284 (zset_B (zapp_setk (k := 0) (by rw [zIc_s] <;> rfl))) ?_
        refine z_iinc C dL_act_285 4 (nI (i + 1)) rfl (nI_add i 1) (by decide) [(11, .int (nI (i + 1))), (0, .ref (q 0)), (1, .ref (p 0)), (4, .int (nI (zNd a))), (10, .ref x259)] rfl ?_
        refine z_goto C 266 dL_act_288 (by decide) ?_
        refine zW.pick (lv' := [(0, .ref (q 0)), (1, .ref (p 0)), (4, .int (nI (zNd a))), (10, .ref x259), (11, .int (nI (i + 1)))]) [1, 2, 3, 4, 0] rfl ?_
        exact ih266 (i + 1) (by omega)
    exact hlp266 (zNd a) 0 (by omega)
  · skip
    refine z_iconst C (nI 1) dL_act_253 (by decide) ?_
    refine zW.wid (k := 2) (n := 17) (by omega) (by omega) ?_
    exact z_zretE (b := true) C dL_act_254 rfl ⟨_, _, _, _, _, _, _, rfl, rfl, hi9, hs⟩
set_option maxRecDepth 100000 in
set_option maxHeartbeats 4000000 in
theorem act_318 (l : Launch) (g : zG) (q p : Nat → Nat) (a : zS) (bs : Nat → Int × Nat) (wb pd gw : Nat → Nat → Int) (sm : Int × Nat × Nat) (x : Int32) (hi9 : zInv a) (hs : zSet a bs wb pd gw 0 0) (E : zEnv) (C : zC g E cL_act RL wsL_act 20 (some .boolean)) (b pr : Nat) (hb : zNb a = 0 ∨ b < zNb a) (hp : pr ≤ 999) : zW g l ({ frames := 31, cells := 2, slots := 17, locals := 822 }) E (zMQ g E (zPie (bI true) (zBoth g q (p 0))) 2 17) 20 0 0 (wB g q a (zG0 a) bs wb pd gw ++ (wS g p a sm)) [(0, .ref (q 0)), (1, .ref (p 0)), (2, .int x), (3, .int (nI (zNf a))), (4, .int (nI (zNd a))), (5, .int (nI (zNb a))), (6, .int (nI b)), (7, .int (nI pr))] [] 318 := by
  have ha := hi9.1
  obtain ⟨hnf, hnd, hnb, hou, hrs, hbd⟩ := id ha
  refine z_iload C dL_act_318 4 rfl ?_
  refine z_if_ne C 325 dL_act_320 (by decide) (zeq_N0 (by omega)) (fun c_320 => ?_) (fun c_320 => ?_)
  · skip
    refine z_iload_n C dL_act_325 2 rfl ?_
    refine z_iconst C (nI 1) dL_act_326 (by decide) ?_
    refine z_ishr C dL_act_327 (v := (x >>> ((nI 1) &&& 31))) rfl ?_
    refine z_iload C dL_act_328 4 rfl ?_
    refine z_callS C (c_L_below l g (wB g q a (zG0 a) bs wb pd gw ++ (wS g p a sm)) (x >>> ((nI 1) &&& 31)) (zNd a) (by omega) (by omega)) (va_cwS 2 C.ts gL_act_L_below rfl rfl rfl (by decide +kernel) ⟨Nat.le_of_ble_eq_true rfl, Nat.le_of_ble_eq_true rfl⟩) rfl rfl (Nat.le_of_ble_eq_true rfl) dL_act_330 ⟨by dsimp only; omega, by dsimp only; omega⟩ ?_
    rintro _ _ ⟨rfl, rfl⟩
    refine zW.eqst (st2 := [.int (nI (zBe (x >>> ((nI 1) &&& 31)) (zNd a)))]) rfl ?_
    obtain ⟨r330, hr330, hl330⟩ : ∃ r, zBe (x >>> ((nI 1) &&& 31)) (zNd a) = r ∧ r < zNd a := ⟨_, rfl, zBe_lt _ (by omega)⟩
    refine zW.top (y := nI r330) (congrArg nI hr330) ?_
    refine z_istore C dL_act_333 (by decide) [(11, .int (nI r330)), (0, .ref (q 0)), (1, .ref (p 0)), (2, .int x), (3, .int (nI (zNf a))), (4, .int (nI (zNd a))), (5, .int (nI (zNb a))), (6, .int (nI b)), (7, .int (nI pr))] rfl ?_
    refine z_aload_n C dL_act_335 2 rfl ?_
    refine z_get C inL_act_X3 (20 + 0) (zapp_B wS_o) rfl 1 (by decide) (C.w 2 rfl) rfl dL_act_336 ?_
    refine z_iload C dL_act_339 0 rfl ?_
    refine z_zaldN C (20 + 2) (zapp_B wS_in) (by omega) (by omega) dL_act_341 (v := bI (zIn a r330)) rfl ?_
    refine z_istore C dL_act_342 (by decide) [(12, .int (bI (zIn a r330))), (11, .int (nI r330)), (0, .ref (q 0)), (1, .ref (p 0)), (2, .int x), (3, .int (nI (zNf a))), (4, .int (nI (zNd a))), (5, .int (nI (zNb a))), (6, .int (nI b)), (7, .int (nI pr))] rfl ?_
    refine z_aload_n C dL_act_344 3 rfl ?_
    refine z_get C inL_act_X3 (20 + 0) (zapp_B wS_o) rfl 1 (by decide) (C.w 2 rfl) rfl dL_act_345 ?_
    refine z_iload C dL_act_348 1 rfl ?_
    refine z_iload_n C dL_act_350 4 rfl ?_
    refine z_iconst C (nI 2) dL_act_351 (by decide) ?_
    refine z_ishr C dL_act_352 (v := (x >>> ((nI 2) &&& 31))) rfl ?_
    refine z_iconst C (nI 3) dL_act_353 (by decide) ?_
    refine z_callS C (c_L_below l g (wB g q a (zG0 a) bs wb pd gw ++ (wS g p a sm)) (x >>> ((nI 2) &&& 31)) 3 (by omega) (by omega)) (va_cwS 2 C.ts gL_act_L_below rfl rfl rfl (by decide +kernel) ⟨Nat.le_of_ble_eq_true rfl, Nat.le_of_ble_eq_true rfl⟩) rfl rfl (Nat.le_of_ble_eq_true rfl) dL_act_354 ⟨by dsimp only; omega, by dsimp only; omega⟩ ?_
    rintro _ _ ⟨rfl, rfl⟩
    refine zW.eqst (st2 := [.int (nI (zBe (x >>> ((nI 2) &&& 31)) 3)), .int (nI r330), .ref (p 2)]) rfl ?_
    obtain ⟨r354, hr354, hl354⟩ : ∃ r, zBe (x >>> ((nI 2) &&& 31)) 3 = r ∧ r < 3 := ⟨_, rfl, zBe_lt _ (by omega)⟩
    refine zW.top (y := nI r354) (congrArg nI hr354) ?_
    refine z_if_le C 364 dL_act_357 (by decide) (zle_N0 (by omega)) (fun c_357 => ?_) (fun c_357 => ?_)
    · skip
      refine z_iconst C (nI 0) dL_act_364 (by decide) ?_
      refine z_zastN C (20 + 2) (zapp_B wS_in) (by omega) (by omega) (show vp_nar .boolean (nI 0) = bI false from rfl) dL_act_365 (zset_B (wS_set_in ha (by omega) false)) ?_
      have h1 : zInv (zSetOu a (zOuIn (zOu a) r330 false)) := zInv_setOu hi9 (by omega) false
      have hnd2 : zNd (zSetOu a (zOuIn (zOu a) r330 false)) = zNd a := rfl
      refine z_aload_n C dL_act_366 2 rfl ?_
      refine z_iload C dL_act_367 1 rfl ?_
      refine z_aload_n C dL_act_369 3 rfl ?_
      refine z_get C inL_act_X3 (20 + 0) (zapp_B wS_o) rfl 1 (by decide) (C.w 2 rfl) rfl dL_act_370 ?_
      refine z_iload C dL_act_373 1 rfl ?_
      refine z_zaldN C (20 + 2) (zapp_B wS_in) (by omega) (by omega) dL_act_375 (v := bI (zIn (zSetOu a (zOuIn (zOu a) r330 false)) r330)) rfl ?_
      refine zW.top (y := bI false) (by rw [← zIn_setOu ha (show r330 < zNd a by omega) false, va_up_self]) ?_
      refine z_callV C (zM.fl (c_X2_setIn l g q a bs wb pd gw hi9 hs r330 (by omega) false) (wS g p (zSetOu a (zOuIn (zOu a) r330 false)) sm)) (cwV 2 C.ts gL_act_X2_setIn rfl rfl rfl (by decide +kernel) ⟨Nat.le_of_ble_eq_true rfl, Nat.le_of_ble_eq_true rfl⟩) (zapp_l wB_o) rfl rfl rfl (Nat.le_of_ble_eq_true rfl) dL_act_376 ⟨by dsimp only; omega, by dsimp only; omega⟩ ?_
      rintro _ _ ⟨_, ⟨rfl, bs1, wb1, pd1, gw1, rfl, hs1⟩, rfl⟩
      refine zW.eqst (st2 := [.int (bI (zIn a r330))]) rfl ?_
      refine z_iload C dL_act_379 0 rfl ?_
      refine z_icmp_ne C 388 dL_act_381 (by decide) Iff.rfl (fun h9 => absurd rfl h9) (fun c_381 => ?_)
      refine z_iconst C (nI 1) dL_act_384 (by decide) ?_
      refine z_goto C 389 dL_act_385 (by decide) ?_
      refine zW.wid (k := 2) (n := 17) (by omega) (by omega) ?_
      exact z_zretE (b := true) C dL_act_389 rfl ⟨_, _, _, _, _, _, _, rfl, rfl, h1, hs1⟩
    · skip
      refine z_iconst C (nI 1) dL_act_360 (by decide) ?_
      refine z_goto C 365 dL_act_361 (by decide) ?_
      refine z_zastN C (20 + 2) (zapp_B wS_in) (by omega) (by omega) (show vp_nar .boolean (nI 1) = bI true from rfl) dL_act_365 (zset_B (wS_set_in ha (by omega) true)) ?_
      have h1 : zInv (zSetOu a (zOuIn (zOu a) r330 true)) := zInv_setOu hi9 (by omega) true
      have hnd2 : zNd (zSetOu a (zOuIn (zOu a) r330 true)) = zNd a := rfl
      refine z_aload_n C dL_act_366 2 rfl ?_
      refine z_iload C dL_act_367 1 rfl ?_
      refine z_aload_n C dL_act_369 3 rfl ?_
      refine z_get C inL_act_X3 (20 + 0) (zapp_B wS_o) rfl 1 (by decide) (C.w 2 rfl) rfl dL_act_370 ?_
      refine z_iload C dL_act_373 1 rfl ?_
      refine z_zaldN C (20 + 2) (zapp_B wS_in) (by omega) (by omega) dL_act_375 (v := bI (zIn (zSetOu a (zOuIn (zOu a) r330 true)) r330)) rfl ?_
      refine zW.top (y := bI true) (by rw [← zIn_setOu ha (show r330 < zNd a by omega) true, va_up_self]) ?_
      refine z_callV C (zM.fl (c_X2_setIn l g q a bs wb pd gw hi9 hs r330 (by omega) true) (wS g p (zSetOu a (zOuIn (zOu a) r330 true)) sm)) (cwV 2 C.ts gL_act_X2_setIn rfl rfl rfl (by decide +kernel) ⟨Nat.le_of_ble_eq_true rfl, Nat.le_of_ble_eq_true rfl⟩) (zapp_l wB_o) rfl rfl rfl (Nat.le_of_ble_eq_true rfl) dL_act_376 ⟨by dsimp only; omega, by dsimp only; omega⟩ ?_
      rintro _ _ ⟨_, ⟨rfl, bs1, wb1, pd1, gw1, rfl, hs1⟩, rfl⟩
      refine zW.eqst (st2 := [.int (bI (zIn a r330))]) rfl ?_
      refine z_iload C dL_act_379 0 rfl ?_
      refine z_icmp_ne C 388 dL_act_381 (by decide) Iff.rfl (fun h9 => absurd rfl h9) (fun c_381 => ?_)
      refine z_iconst C (nI 1) dL_act_384 (by decide) ?_
      refine z_goto C 389 dL_act_385 (by decide) ?_
      refine zW.wid (k := 2) (n := 17) (by omega) (by omega) ?_
      exact z_zretE (b := true) C dL_act_389 rfl ⟨_, _, _, _, _, _, _, rfl, rfl, h1, hs1⟩
  · skip
    refine z_iconst C (nI 1) dL_act_323 (by decide) ?_
    refine zW.wid (k := 2) (n := 17) (by omega) (by omega) ?_
    exact z_zretE (b := true) C dL_act_324 rfl ⟨_, _, _, _, _, _, _, rfl, rfl, hi9, hs⟩
set_option maxRecDepth 100000 in
set_option maxHeartbeats 4000000 in
theorem act_390 (l : Launch) (g : zG) (q p : Nat → Nat) (a : zS) (bs : Nat → Int × Nat) (wb pd gw : Nat → Nat → Int) (sm : Int × Nat × Nat) (x : Int32) (hi9 : zInv a) (hs : zSet a bs wb pd gw 0 0) (E : zEnv) (C : zC g E cL_act RL wsL_act 20 (some .boolean)) (b pr : Nat) (hb : zNb a = 0 ∨ b < zNb a) (hp : pr ≤ 999) : zW g l ({ frames := 31, cells := 2, slots := 17, locals := 822 }) E (zMQ g E (zPie (bI true) (zBoth g q (p 0))) 2 17) 20 0 0 (wB g q a (zG0 a) bs wb pd gw ++ (wS g p a sm)) [(0, .ref (q 0)), (1, .ref (p 0)), (2, .int x), (3, .int (nI (zNf a))), (4, .int (nI (zNd a))), (5, .int (nI (zNb a))), (6, .int (nI b)), (7, .int (nI pr))] [] 390 := by
  have ha := hi9.1
  obtain ⟨hnf, hnd, hnb, hou, hrs, hbd⟩ := id ha
  refine z_iload C dL_act_390 5 rfl ?_
  refine z_if_ne C 397 dL_act_392 (by decide) (zeq_N0 (by omega)) (fun c_392 => ?_) (fun c_392 => ?_)
  · skip
    refine z_aload_n C dL_act_397 1 rfl ?_
    refine z_get C inL_act_X3 (20 + 0) (zapp_B wS_o) rfl 2 (by decide) (C.w 3 rfl) rfl dL_act_398 ?_
    refine z_iload C dL_act_401 6 rfl ?_
    refine z_aald C (20 + 3) (zapp_B wS_bi) (by omega) (by omega) dL_act_403 (zPt_at (by omega)) ?_
    refine z_iconst C (nI 2) dL_act_404 (by decide) ?_
    refine z_ialdN C (20 + (4 + b)) (zapp_B (wS_row (b := b) (by omega))) (by omega) (by decide) dL_act_405 (v := nI (zPr a b)) rfl ?_
    have f_405b := ha.pr (b := b) (by omega)
    refine z_istore C dL_act_406 (by decide) [(13, .int (nI (zPr a b))), (0, .ref (q 0)), (1, .ref (p 0)), (2, .int x), (3, .int (nI (zNf a))), (4, .int (nI (zNd a))), (5, .int (nI (zNb a))), (6, .int (nI b)), (7, .int (nI pr))] rfl ?_
    refine z_aload_n C dL_act_408 2 rfl ?_
    refine z_get C inL_act_X3 (20 + 0) (zapp_B wS_o) rfl 2 (by decide) (C.w 3 rfl) rfl dL_act_409 ?_
    refine z_iload C dL_act_412 7 rfl ?_
    refine z_aald C (20 + 3) (zapp_B wS_bi) (by omega) (by omega) dL_act_414 (zPt_at (by omega)) ?_
    refine z_iconst C (nI 2) dL_act_415 (by decide) ?_
    refine z_iload C dL_act_416 8 rfl ?_
    refine z_iastN C (20 + (4 + b)) (zapp_B (wS_row (b := b) (by omega))) (by omega) (by decide) dL_act_418 (zset_B (wS_set_pr (by omega) pr)) ?_
    have h1 : zInv (zSetPr a b pr) := zInv_setPr hi9 hp
    refine z_aload_n C dL_act_419 1 rfl ?_
    refine z_iload C dL_act_420 7 rfl ?_
    refine z_iload C dL_act_422 8 rfl ?_
    refine z_callV C (zM.fl (c_X2_setPrice l g q a bs wb pd gw hi9 hs b pr (by omega) hp) (wS g p (zSetPr a b pr) sm)) (cwV 2 C.ts gL_act_X2_setPrice rfl rfl rfl (by decide +kernel) ⟨Nat.le_of_ble_eq_true rfl, Nat.le_of_ble_eq_true rfl⟩) (zapp_l wB_o) rfl rfl rfl (Nat.le_of_ble_eq_true rfl) dL_act_424 ⟨by dsimp only; omega, by dsimp only; omega⟩ ?_
    rintro _ _ ⟨_, ⟨rfl, bs1, wb1, pd1, gw1, rfl, hs1⟩, rfl⟩
    refine zW.eqst (st2 := [.int (nI (zPr a b))]) rfl ?_
    refine z_iload C dL_act_427 0 rfl ?_
    refine z_icmp_ne C 436 dL_act_429 (by decide) (zeq_NN (by omega) (by omega)) (fun h9 => absurd rfl h9) (fun c_429 => ?_)
    refine z_iconst C (nI 1) dL_act_432 (by decide) ?_
    refine z_goto C 437 dL_act_433 (by decide) ?_
    refine zW.wid (k := 2) (n := 17) (by omega) (by omega) ?_
    exact z_zretE (b := true) C dL_act_437 rfl ⟨_, _, _, _, _, _, _, rfl, rfl, h1, hs1⟩
  · skip
    refine z_iconst C (nI 1) dL_act_395 (by decide) ?_
    refine zW.wid (k := 2) (n := 17) (by omega) (by omega) ?_
    exact z_zretE (b := true) C dL_act_396 rfl ⟨_, _, _, _, _, _, _, rfl, rfl, hi9, hs⟩
set_option maxRecDepth 100000 in
set_option maxHeartbeats 4000000 in
theorem act_438 (l : Launch) (g : zG) (q p : Nat → Nat) (a : zS) (bs : Nat → Int × Nat) (wb pd gw : Nat → Nat → Int) (sm : Int × Nat × Nat) (x : Int32) (hi9 : zInv a) (hs : zSet a bs wb pd gw 0 0) (E : zEnv) (C : zC g E cL_act RL wsL_act 20 (some .boolean)) (b pr : Nat) (hb : zNb a = 0 ∨ b < zNb a) (hp : pr ≤ 999) : zW g l ({ frames := 31, cells := 2, slots := 17, locals := 822 }) E (zMQ g E (zPie (bI true) (zBoth g q (p 0))) 2 17) 20 0 0 (wB g q a (zG0 a) bs wb pd gw ++ (wS g p a sm)) [(0, .ref (q 0)), (1, .ref (p 0)), (2, .int x), (3, .int (nI (zNf a))), (4, .int (nI (zNd a))), (5, .int (nI (zNb a))), (6, .int (nI b)), (7, .int (nI pr))] [] 438 := by
  have ha := hi9.1
  obtain ⟨hnf, hnd, hnb, hou, hrs, hbd⟩ := id ha
  refine z_iload C dL_act_438 5 rfl ?_
  refine z_if_ne C 445 dL_act_440 (by decide) (zeq_N0 (by omega)) (fun c_440 => ?_) (fun c_440 => ?_)
  · skip
    refine z_aload_n C dL_act_445 1 rfl ?_
    refine z_get C inL_act_X3 (20 + 0) (zapp_B wS_o) rfl 2 (by decide) (C.w 3 rfl) rfl dL_act_446 ?_
    refine z_iload C dL_act_449 6 rfl ?_
    refine z_aald C (20 + 3) (zapp_B wS_bi) (by omega) (by omega) dL_act_451 (zPt_at (by omega)) ?_
    refine z_iconst C (nI 3) dL_act_452 (by decide) ?_
    refine z_ialdN C (20 + (4 + b)) (zapp_B (wS_row (b := b) (by omega))) (by omega) (by decide) dL_act_453 (v := nI (zWo a b)) rfl ?_
    have f_453b := ha.wo (b := b) (by omega)
    refine z_istore C dL_act_454 (by decide) [(14, .int (nI (zWo a b))), (0, .ref (q 0)), (1, .ref (p 0)), (2, .int x), (3, .int (nI (zNf a))), (4, .int (nI (zNd a))), (5, .int (nI (zNb a))), (6, .int (nI b)), (7, .int (nI pr))] rfl ?_
    refine z_aload_n C dL_act_456 2 rfl ?_
    refine z_get C inL_act_X3 (20 + 0) (zapp_B wS_o) rfl 2 (by decide) (C.w 3 rfl) rfl dL_act_457 ?_
    refine z_iload C dL_act_460 7 rfl ?_
    refine z_aald C (20 + 3) (zapp_B wS_bi) (by omega) (by omega) dL_act_462 (zPt_at (by omega)) ?_
    refine z_iconst C (nI 3) dL_act_463 (by decide) ?_
    refine z_iload C dL_act_464 8 rfl ?_
    refine z_iastN C (20 + (4 + b)) (zapp_B (wS_row (b := b) (by omega))) (by omega) (by decide) dL_act_466 (zset_B (wS_set_wo (by omega) pr)) ?_
    have h1 : zInv (zSetWo a b pr) := zInv_setWo hi9 hp
    refine z_aload_n C dL_act_467 1 rfl ?_
    refine z_iload C dL_act_468 7 rfl ?_
    refine z_iload C dL_act_470 8 rfl ?_
    refine z_callV C (zM.fl (c_X2_setWorth l g q a bs wb pd gw hi9 hs b pr (by omega) hp) (wS g p (zSetWo a b pr) sm)) (cwV 2 C.ts gL_act_X2_setWorth rfl rfl rfl (by decide +kernel) ⟨Nat.le_of_ble_eq_true rfl, Nat.le_of_ble_eq_true rfl⟩) (zapp_l wB_o) rfl rfl rfl (Nat.le_of_ble_eq_true rfl) dL_act_472 ⟨by dsimp only; omega, by dsimp only; omega⟩ ?_
    rintro _ _ ⟨_, ⟨rfl, bs1, wb1, pd1, gw1, rfl, hs1⟩, rfl⟩
    refine zW.eqst (st2 := [.int (nI (zWo a b))]) rfl ?_
    refine z_iload C dL_act_475 0 rfl ?_
    refine z_icmp_ne C 484 dL_act_477 (by decide) (zeq_NN (by omega) (by omega)) (fun h9 => absurd rfl h9) (fun c_477 => ?_)
    refine z_iconst C (nI 1) dL_act_480 (by decide) ?_
    refine z_goto C 485 dL_act_481 (by decide) ?_
    refine zW.wid (k := 2) (n := 17) (by omega) (by omega) ?_
    exact z_zretE (b := true) C dL_act_485 rfl ⟨_, _, _, _, _, _, _, rfl, rfl, h1, hs1⟩
  · skip
    refine z_iconst C (nI 1) dL_act_443 (by decide) ?_
    refine zW.wid (k := 2) (n := 17) (by omega) (by omega) ?_
    exact z_zretE (b := true) C dL_act_444 rfl ⟨_, _, _, _, _, _, _, rfl, rfl, hi9, hs⟩
set_option maxRecDepth 100000 in
set_option maxHeartbeats 4000000 in
theorem act_486 (l : Launch) (g : zG) (q p : Nat → Nat) (a : zS) (bs : Nat → Int × Nat) (wb pd gw : Nat → Nat → Int) (sm : Int × Nat × Nat) (x : Int32) (hi9 : zInv a) (hs : zSet a bs wb pd gw 0 0) (E : zEnv) (C : zC g E cL_act RL wsL_act 20 (some .boolean)) (b pr : Nat) (hb : zNb a = 0 ∨ b < zNb a) (hp : pr ≤ 999) : zW g l ({ frames := 31, cells := 2, slots := 17, locals := 822 }) E (zMQ g E (zPie (bI true) (zBoth g q (p 0))) 2 17) 20 0 0 (wB g q a (zG0 a) bs wb pd gw ++ (wS g p a sm)) [(0, .ref (q 0)), (1, .ref (p 0)), (2, .int x), (3, .int (nI (zNf a))), (4, .int (nI (zNd a))), (5, .int (nI (zNb a))), (6, .int (nI b)), (7, .int (nI pr))] [] 486 := by
  have ha := hi9.1
  obtain ⟨hnf, hnd, hnb, hou, hrs, hbd⟩ := id ha
  refine z_iload C dL_act_486 5 rfl ?_
  refine z_if_eq C 512 dL_act_488 (by decide) (zeq_N0 (by omega)) (fun c_488 => ?_) (fun c_488 => ?_)
  · skip
    refine z_iconst C (nI 1) dL_act_512 (by decide) ?_
    refine zW.wid (k := 2) (n := 17) (by omega) (by omega) ?_
    exact z_zretE (b := true) C dL_act_513 rfl ⟨_, _, _, _, _, _, _, rfl, rfl, hi9, hs⟩
  · skip
    refine z_aload_n C dL_act_491 1 rfl ?_
    refine z_get C inL_act_X3 (20 + 0) (zapp_B wS_o) rfl 2 (by decide) (C.w 3 rfl) rfl dL_act_492 ?_
    refine z_iload C dL_act_495 6 rfl ?_
    refine z_aald C (20 + 3) (zapp_B wS_bi) (by omega) (by omega) dL_act_497 (zPt_at (by omega)) ?_
    refine z_iconst C (nI 4) dL_act_498 (by decide) ?_
    refine z_ialdN C (20 + (4 + b)) (zapp_B (wS_row (b := b) (by omega))) (by omega) (by decide) dL_act_499 (v := nI (zGo a b)) rfl ?_
    have f_499b := ha.go (b := b) (by omega)
    refine z_iconst C (nI 1) dL_act_500 (by decide) ?_
    refine z_icmp_eq C 512 dL_act_501 (by decide) (zeq_NN (by omega) (by omega)) (fun c_501 => ?_) (fun c_501 => ?_)
    · skip
      refine z_iconst C (nI 1) dL_act_512 (by decide) ?_
      refine zW.wid (k := 2) (n := 17) (by omega) (by omega) ?_
      exact z_zretE (b := true) C dL_act_513 rfl ⟨_, _, _, _, _, _, _, rfl, rfl, hi9, hs⟩
    · skip
      refine z_iload_n C dL_act_504 2 rfl ?_
      refine z_iconst C (nI 3) dL_act_505 (by decide) ?_
      refine z_callS C (c_L_below l g (wB g q a (zG0 a) bs wb pd gw ++ (wS g p a sm)) x 3 (by omega) (by omega)) (va_cwS 2 C.ts gL_act_L_below rfl rfl rfl (by decide +kernel) ⟨Nat.le_of_ble_eq_true rfl, Nat.le_of_ble_eq_true rfl⟩) rfl rfl (Nat.le_of_ble_eq_true rfl) dL_act_506 ⟨by dsimp only; omega, by dsimp only; omega⟩ ?_
      rintro _ _ ⟨rfl, rfl⟩
      refine zW.eqst (st2 := [.int (nI (zBe x 3))]) rfl ?_
      obtain ⟨r506, hr506, hl506⟩ : ∃ r, zBe x 3 = r ∧ r < 3 := ⟨_, rfl, zBe_lt _ (by omega)⟩
      refine zW.top (y := nI r506) (congrArg nI hr506) ?_
      refine z_if_le C 514 dL_act_509 (by decide) (zle_N0 (by omega)) (fun c_509 => ?_) (fun c_509 => ?_)
      · skip
        refine z_aload_n C dL_act_514 1 rfl ?_
        refine z_get C inL_act_X3 (20 + 0) (zapp_B wS_o) rfl 2 (by decide) (C.w 3 rfl) rfl dL_act_515 ?_
        refine z_iload C dL_act_518 6 rfl ?_
        refine z_aald C (20 + 3) (zapp_B wS_bi) (by omega) (by omega) dL_act_520 (zPt_at (by omega)) ?_
        refine z_iconst C (nI 4) dL_act_521 (by decide) ?_
        refine z_iconst C (nI 1) dL_act_522 (by decide) ?_
        refine z_iastN C (20 + (4 + b)) (zapp_B (wS_row (b := b) (by omega))) (by omega) (by decide) dL_act_523 (zset_B (wS_set_go (by omega) 1)) ?_
        have h1 : zInv (zSetGo a b 1) := zInv_setGo hi9 (by omega)
        have hnb2 : zNb (zSetGo a b 1) = zNb a := rfl
        refine z_iconst C (nI 0) dL_act_524 (by decide) ?_
        refine z_istore C dL_act_525 (by decide) [(15, .int (nI 0)), (0, .ref (q 0)), (1, .ref (p 0)), (2, .int x), (3, .int (nI (zNf a))), (4, .int (nI (zNd a))), (5, .int (nI (zNb a))), (6, .int (nI b)), (7, .int (nI pr))] rfl ?_
        refine z_aload_n C dL_act_527 2 rfl ?_
        refine z_get C inL_act_X3 (20 + 0) (zapp_B wS_o) rfl 2 (by decide) (C.w 3 rfl) rfl dL_act_528 ?_
        refine z_astore C dL_act_531 (by decide) [(16, .ref (p 3)), (15, .int (nI 0)), (0, .ref (q 0)), (1, .ref (p 0)), (2, .int x), (3, .int (nI (zNf a))), (4, .int (nI (zNd a))), (5, .int (nI (zNb a))), (6, .int (nI b)), (7, .int (nI pr))] rfl ?_
        refine z_aload C dL_act_533 0 rfl ?_
        refine z_alenR C (20 + 3) (zapp_B wS_bi) dL_act_535 ?_
        refine z_istore C dL_act_536 (by decide) [(17, .int (nI (zNb (zSetGo a b 1)))), (16, .ref (p 3)), (15, .int (nI 0)), (0, .ref (q 0)), (1, .ref (p 0)), (2, .int x), (3, .int (nI (zNf a))), (4, .int (nI (zNd a))), (5, .int (nI (zNb a))), (6, .int (nI b)), (7, .int (nI pr))] rfl ?_
        refine z_iconst C (nI 0) dL_act_538 (by decide) ?_
        refine z_istore C dL_act_539 (by decide) [(18, .int (nI 0)), (17, .int (nI (zNb (zSetGo a b 1)))), (16, .ref (p 3)), (15, .int (nI 0)), (0, .ref (q 0)), (1, .ref (p 0)), (2, .int x), (3, .int (nI (zNf a))), (4, .int (nI (zNd a))), (5, .int (nI (zNb a))), (6, .int (nI b)), (7, .int (nI pr))] rfl ?_
        refine zW.pick (lv' := [(0, .ref (q 0)), (1, .ref (p 0)), (6, .int (nI b)), (15, .int (nI 0)), (16, .ref (p 3)), (17, .int (nI (zNb (zSetGo a b 1)))), (18, .int (nI 0))]) [4, 5, 10, 3, 2, 1, 0] rfl ?_
        have hlp541 : ∀ (k i : Nat), i + k = zNb a → zW g l ({ frames := 31, cells := 2, slots := 17, locals := 822 }) E (zMQ g E (zPie (bI true) (zBoth g q (p 0))) 2 17) 20 0 0 (wB g q a (zG0 a) bs wb pd gw ++ (wS g p (zSetGo a b 1) sm)) [(0, .ref (q 0)), (1, .ref (p 0)), (6, .int (nI b)), (15, .int (nI (mLeft (zSetGo a b 1) i))), (16, .ref (p 3)), (17, .int (nI (zNb (zSetGo a b 1)))), (18, .int (nI i))] [] 541 := by
          intro k
          induction k with
          | zero =>
            intro i hik
            refine z_iload C dL_act_541 6 rfl ?_
            refine z_iload C dL_act_543 5 rfl ?_
            refine z_icmp_ge C 572 dL_act_545 (by decide) (zle_NN (by omega) (by omega)) (fun c_545 => ?_) (fun h9 => absurd (by omega) h9)
            refine zW.pick (lv' := [(0, .ref (q 0)), (1, .ref (p 0)), (6, .int (nI b)), (15, .int (nI (mLeft (zSetGo a b 1) i)))]) [0, 1, 2, 3] rfl ?_
            refine zW.lve (lv' := [(0, .ref (q 0)), (1, .ref (p 0)), (6, .int (nI b)), (15, .int (nI (mLeft (zSetGo a b 1) (zNb a))))]) (by rw [show i = zNb a by omega]) ?_
            refine z_aload_n C dL_act_572 0 rfl ?_
            refine z_iload C dL_act_573 2 rfl ?_
            refine z_callV C (zM.fl (c_X2_withdraw l g q a bs wb pd gw hi9 hs b (by omega) (by omega)) (wS g p (zSetGo a b 1) sm)) (cwV 1 C.ts gL_act_X2_withdraw rfl rfl rfl (by decide +kernel) ⟨Nat.le_of_ble_eq_true rfl, Nat.le_of_ble_eq_true rfl⟩) (zapp_l wB_o) rfl rfl rfl (Nat.le_of_ble_eq_true rfl) dL_act_575 ⟨by dsimp only; omega, by dsimp only; omega⟩ ?_
            rintro _ _ ⟨_, ⟨rfl, bs1, wb1, pd1, gw1, rfl, hs1⟩, rfl⟩
            refine zW.eqst (st2 := [.int (nI (zSum (zLof (zSetGo a b 1)) (zNd a)))]) rfl ?_
            refine z_iload C dL_act_578 3 rfl ?_
            refine z_icmp_ne C 587 dL_act_580 (by decide) Iff.rfl (fun h9 => absurd (congrArg nI (mLeft_eq h1.1).symm) h9) (fun c_580 => ?_)
            refine z_iconst C (nI 1) dL_act_583 (by decide) ?_
            refine z_goto C 588 dL_act_584 (by decide) ?_
            refine zW.wid (k := 2) (n := 17) (by omega) (by omega) ?_
            exact z_zretE (b := true) C dL_act_588 rfl ⟨_, _, _, _, _, _, _, rfl, rfl, h1, hs1⟩
          | succ k ih541 =>
            intro i hik
            refine z_iload C dL_act_541 6 rfl ?_
            refine z_iload C dL_act_543 5 rfl ?_
            refine z_icmp_ge C 572 dL_act_545 (by decide) (zle_NN (by omega) (by omega)) (fun h9 => absurd h9 (by omega)) (fun c_545 => ?_)
            refine z_aload C dL_act_548 4 rfl ?_
            refine z_iload C dL_act_550 6 rfl ?_
            refine z_aald C (20 + 3) (zapp_B wS_bi) (by omega) (by omega) dL_act_552 (zPt_at (by omega)) ?_
            refine z_astore C dL_act_553 (by decide) [(19, .ref (p (4 + i))), (0, .ref (q 0)), (1, .ref (p 0)), (6, .int (nI b)), (15, .int (nI (mLeft (zSetGo a b 1) i))), (16, .ref (p 3)), (17, .int (nI (zNb (zSetGo a b 1)))), (18, .int (nI i))] rfl ?_
            refine z_iload C dL_act_555 4 rfl ?_
            refine z_iconst C (nI 1) dL_act_557 (by decide) ?_
            refine z_aload C dL_act_558 0 rfl ?_
            refine z_iconst C (nI 4) dL_act_560 (by decide) ?_
            refine z_ialdN C (20 + (4 + i)) (zapp_B (wS_row (b := i) (by omega))) (by omega) (by decide) dL_act_561 (v := nI (zGo (zSetGo a b 1) i)) rfl ?_
            have f_561b := h1.1.go (b := i) (by omega)
            refine z_isub C dL_act_562 (v := nI (1 - zGo (zSetGo a b 1) i)) (pk_sub (by omega)) ?_
            refine z_iadd C dL_act_563 (v := nI ((mLeft (zSetGo a b 1) i) + (1 - zGo (zSetGo a b 1) i))) (nI_add (mLeft (zSetGo a b 1) i) (1 - zGo (zSetGo a b 1) i)) ?_
            refine z_istore C dL_act_564 (by decide) [(15, .int (nI ((mLeft (zSetGo a b 1) i) + (1 - zGo (zSetGo a b 1) i)))), (19, .ref (p (4 + i))), (0, .ref (q 0)), (1, .ref (p 0)), (6, .int (nI b)), (16, .ref (p 3)), (17, .int (nI (zNb (zSetGo a b 1)))), (18, .int (nI i))] rfl ?_
            refine z_iinc C dL_act_566 7 (nI (i + 1)) rfl (nI_add i 1) (by decide) [(18, .int (nI (i + 1))), (15, .int (nI ((mLeft (zSetGo a b 1) i) + (1 - zGo (zSetGo a b 1) i)))), (19, .ref (p (4 + i))), (0, .ref (q 0)), (1, .ref (p 0)), (6, .int (nI b)), (16, .ref (p 3)), (17, .int (nI (zNb (zSetGo a b 1))))] rfl ?_
            refine z_goto C 541 dL_act_569 (by decide) ?_
            refine zW.pick (lv' := [(0, .ref (q 0)), (1, .ref (p 0)), (6, .int (nI b)), (15, .int (nI ((mLeft (zSetGo a b 1) i) + (1 - zGo (zSetGo a b 1) i)))), (16, .ref (p 3)), (17, .int (nI (zNb (zSetGo a b 1)))), (18, .int (nI (i + 1)))]) [3, 4, 5, 1, 6, 7, 0] rfl ?_
            refine zW.lve (lv' := [(0, .ref (q 0)), (1, .ref (p 0)), (6, .int (nI b)), (15, .int (nI (mLeft (zSetGo a b 1) (i + 1)))), (16, .ref (p 3)), (17, .int (nI (zNb (zSetGo a b 1)))), (18, .int (nI (i + 1)))]) (rfl) ?_
            exact ih541 (i + 1) (by omega)
        exact hlp541 (zNb a) 0 (by omega)
      · skip
        refine z_iconst C (nI 1) dL_act_512 (by decide) ?_
        refine zW.wid (k := 2) (n := 17) (by omega) (by omega) ?_
        exact z_zretE (b := true) C dL_act_513 rfl ⟨_, _, _, _, _, _, _, rfl, rfl, hi9, hs⟩
set_option maxRecDepth 100000 in
set_option maxHeartbeats 4000000 in
theorem act_644 (l : Launch) (g : zG) (q p : Nat → Nat) (a : zS) (bs : Nat → Int × Nat) (wb pd gw : Nat → Nat → Int) (sm : Int × Nat × Nat) (x : Int32) (hi9 : zInv a) (hs : zSet a bs wb pd gw 0 0) (E : zEnv) (C : zC g E cL_act RL wsL_act 20 (some .boolean)) (b pr : Nat) (hb : zNb a = 0 ∨ b < zNb a) (hp : pr ≤ 999) (m : Nat) (hm0 : 0 < m) (hm : m < 2 ^ zNf a) (h1d : 0 < zNd a) (h12 : zNb a < 12) : zW g l ({ frames := 31, cells := 2, slots := 17, locals := 822 }) E (zMQ g E (zPie (bI true) (zBoth g q (p 0))) 2 17) 20 0 0 (wB g q a (zG0 a) bs wb pd gw ++ (wS g p a sm)) [(0, .ref (q 0)), (1, .ref (p 0)), (2, .int x), (3, .int (nI (zNf a))), (4, .int (nI (zNd a))), (5, .int (nI (zNb a))), (6, .int (nI b)), (7, .int (nI pr)), (16, .int (nI m))] [] 644 := by
  have ha := hi9.1
  obtain ⟨hnf, hnd, hnb, hou, hrs, hbd⟩ := id ha
  refine z_iload_n C dL_act_644 2 rfl ?_
  refine z_iconst C (nI 5) dL_act_645 (by decide) ?_
  refine z_ishr C dL_act_646 (v := (x >>> ((nI 5) &&& 31))) rfl ?_
  refine z_iload C dL_act_647 4 rfl ?_
  refine z_callS C (c_L_below l g (wB g q a (zG0 a) bs wb pd gw ++ (wS g p a sm)) (x >>> ((nI 5) &&& 31)) (zNd a) (by omega) (by omega)) (va_cwS 2 C.ts gL_act_L_below rfl rfl rfl (by decide +kernel) ⟨Nat.le_of_ble_eq_true rfl, Nat.le_of_ble_eq_true rfl⟩) rfl rfl (Nat.le_of_ble_eq_true rfl) dL_act_649 ⟨by dsimp only; omega, by dsimp only; omega⟩ ?_
  rintro _ _ ⟨rfl, rfl⟩
  refine zW.eqst (st2 := [.int (nI (zBe (x >>> ((nI 5) &&& 31)) (zNd a)))]) rfl ?_
  obtain ⟨r649, hr649, hl649⟩ : ∃ r, zBe (x >>> ((nI 5) &&& 31)) (zNd a) = r ∧ r < zNd a := ⟨_, rfl, zBe_lt _ (by omega)⟩
  refine zW.top (y := nI r649) (congrArg nI hr649) ?_
  refine z_istore C dL_act_652 (by decide) [(17, .int (nI r649)), (0, .ref (q 0)), (1, .ref (p 0)), (2, .int x), (3, .int (nI (zNf a))), (4, .int (nI (zNd a))), (5, .int (nI (zNb a))), (6, .int (nI b)), (7, .int (nI pr)), (16, .int (nI m))] rfl ?_
  refine z_iload C dL_act_654 6 rfl ?_
  refine z_iconst C (nI 1) dL_act_656 (by decide) ?_
  refine z_iadd C dL_act_657 (v := nI ((zNb a) + 1)) (nI_add (zNb a) 1) ?_
  refine z_newaR C (C.w 5 rfl) (n := (zNb a) + 1) (by omega) (by dsimp only; omega) (by dsimp only; omega) dL_act_658 (fun x658 => ?_)
  refine zW.eqw (ws2 := wB g q a (zG0 a) bs wb pd gw ++ (wS g p a sm ++ [(x658, .inl (zJ g, (zNb a) + 1, .inr (.inr (.inr (.inr (fun _ => none))))))])) (List.append_assoc _ _ _) ?_
  refine z_astore C dL_act_661 (by decide) [(18, .ref x658), (17, .int (nI r649)), (0, .ref (q 0)), (1, .ref (p 0)), (2, .int x), (3, .int (nI (zNf a))), (4, .int (nI (zNd a))), (5, .int (nI (zNb a))), (6, .int (nI b)), (7, .int (nI pr)), (16, .int (nI m))] rfl ?_
  refine z_iconst C (nI 0) dL_act_663 (by decide) ?_
  refine z_istore C dL_act_664 (by decide) [(19, .int (nI 0)), (18, .ref x658), (17, .int (nI r649)), (0, .ref (q 0)), (1, .ref (p 0)), (2, .int x), (3, .int (nI (zNf a))), (4, .int (nI (zNd a))), (5, .int (nI (zNb a))), (6, .int (nI b)), (7, .int (nI pr)), (16, .int (nI m))] rfl ?_
  rw [zPa_0 p]
  refine zW.pick (lv' := [(0, .ref (q 0)), (1, .ref (p 0)), (5, .int (nI (zNb a))), (7, .int (nI pr)), (16, .int (nI m)), (17, .int (nI r649)), (18, .ref x658), (19, .int (nI 0))]) [3, 4, 8, 10, 11, 2, 1, 0] rfl ?_
  have hlp666 : ∀ (k i : Nat), i + k = zNb a → zW g l ({ frames := 31, cells := 2, slots := 17, locals := 822 }) E (zMQ g E (zPie (bI true) (zBoth g q (p 0))) 2 17) 20 (0 + 1) (0 + ((zNb a) + 1)) (wB g q a (zG0 a) bs wb pd gw ++ (wS g p a sm ++ [(x658, .inl (zJ g, (zNb a) + 1, .inr (.inr (.inr (.inr (zPa p i))))))])) [(0, .ref (q 0)), (1, .ref (p 0)), (5, .int (nI (zNb a))), (7, .int (nI pr)), (16, .int (nI m)), (17, .int (nI r649)), (18, .ref x658), (19, .int (nI i))] [] 666 := by
    intro k
    induction k with
    | zero =>
      intro i hik
      refine z_iload C dL_act_666 7 rfl ?_
      refine z_iload C dL_act_668 2 rfl ?_
      refine z_icmp_ge C 691 dL_act_670 (by decide) (zle_NN (by omega) (by omega)) (fun c_670 => ?_) (fun h9 => absurd (by omega) h9)
      rw [show i = zNb a by omega]
      refine z_aload C dL_act_691 6 rfl ?_
      refine z_iload C dL_act_693 2 rfl ?_
      refine z_iconst C (nI 5) dL_act_695 (by decide) ?_
      refine z_newaI C (C.w 6 rfl) (n := 5) (by omega) (by dsimp only; omega) (by dsimp only; omega) dL_act_696 (fun x696 => ?_)
      refine zW.eqw (ws2 := wB g q a (zG0 a) bs wb pd gw ++ (wS g p a sm ++ [(x658, .inl (zJ g, (zNb a) + 1, .inr (.inr (.inr (.inr (zPa p (zNb a))))))), (x696, .inl (zI g, 5, .inl (fun _ => nI 0)))])) (by rw [List.append_assoc, List.append_assoc]; rfl) ?_
      refine z_dup C dL_act_698 rfl ?_
      refine z_iconst C (nI 0) dL_act_699 (by decide) ?_
      refine z_iload C dL_act_700 5 rfl ?_
      refine z_iastN C (20 + ((wS g p a sm).length + 1)) (zapp_B (zapp_r (k := 1) rfl)) (by omega) (by decide) dL_act_702 (zset_B (zapp_setk (k := 1) rfl)) ?_
      refine z_dup C dL_act_703 rfl ?_
      refine z_iconst C (nI 1) dL_act_704 (by decide) ?_
      refine z_iload C dL_act_705 4 rfl ?_
      refine z_iastN C (20 + ((wS g p a sm).length + 1)) (zapp_B (zapp_r (k := 1) rfl)) (by omega) (by decide) dL_act_707 (zset_B (zapp_setk (k := 1) rfl)) ?_
      refine z_dup C dL_act_708 rfl ?_
      refine z_iconst C (nI 2) dL_act_709 (by decide) ?_
      refine z_iload C dL_act_710 3 rfl ?_
      refine z_iastN C (20 + ((wS g p a sm).length + 1)) (zapp_B (zapp_r (k := 1) rfl)) (by omega) (by decide) dL_act_712 (zset_B (zapp_setk (k := 1) rfl)) ?_
      refine z_dup C dL_act_713 rfl ?_
      refine z_iconst C (nI 3) dL_act_714 (by decide) ?_
      refine z_iload C dL_act_715 3 rfl ?_
      refine z_iastN C (20 + ((wS g p a sm).length + 1)) (zapp_B (zapp_r (k := 1) rfl)) (by omega) (by decide) dL_act_717 (zset_B (zapp_setk (k := 1) rfl)) ?_
      refine z_dup C dL_act_718 rfl ?_
      refine z_iconst C (nI 4) dL_act_719 (by decide) ?_
      refine z_iconst C (nI 0) dL_act_720 (by decide) ?_
      refine z_iastN C (20 + ((wS g p a sm).length + 1)) (zapp_B (zapp_r (k := 1) rfl)) (by omega) (by decide) dL_act_721 (zset_B (zapp_setk (k := 1) rfl)) ?_
      refine zW.eqw (congrArg (fun f9 => wB g q a (zG0 a) bs wb pd gw ++ (wS g p a sm ++ [(x658, .inl (zJ g, (zNb a) + 1, .inr (.inr (.inr (.inr (zPa p (zNb a))))))), (x696, .inl (zI g, 5, .inl f9))])) (show upd (upd (upd (upd (upd (fun _ => nI 0) 0 (nI r649)) 1 (nI m)) 2 (nI pr)) 3 (nI pr)) 4 (nI 0) = zRow (zBid a r649 m pr) (zNb a) from zRow_bid hi9)) ?_
      refine zW.eqw (ws2 := wB g q a (zG0 a) bs wb pd gw ++ (wS g p a sm ++ [(x658, .inl (zJ g, (zNb a) + 1, .inr (.inr (.inr (.inr (zPa p (zNb a))))))), (x696, .inl (zI g, 5, .inl (zRow (zBid a r649 m pr) (zNb a))))])) rfl ?_
      refine z_aast C (20 + ((wS g p a sm).length + 0)) (20 + ((wS g p a sm).length + 1)) (zapp_B (zapp_r (k := 0) rfl)) (zapp_B (zapp_r (k := 1) rfl)) (by omega) (by omega) dL_act_722 (zset_B (zapp_setk (k := 0) rfl)) ?_
      refine z_aload_n C dL_act_723 1 rfl ?_
      refine z_aload C dL_act_724 6 rfl ?_
      refine z_put C inL_act_X3 tyX3_ok nmX3 (20 + 0) (zapp_B (zapp_l wS_o)) rfl 2 (by decide) (C.w 3 rfl) rfl (tyX3_ok 2 (by decide)) rfl rfl (Nat.le_of_ble_eq_true rfl) dL_act_726 (zset_B rfl) ?_
      refine zNewBi hi9 (fun p2 hp2 => ?_)
      have h1 : zInv (zBid a r649 m pr) := zInv_bid hi9 (by omega) hm0 hm hp h12
      refine zW.lve (lv' := [(0, .ref (q 0)), (1, .ref (p2 0)), (5, .int (nI (zNb a))), (7, .int (nI pr)), (16, .int (nI m)), (17, .int (nI r649)), (18, .ref x658), (19, .int (nI (zNb a)))]) (by rw [hp2]) ?_
      refine z_aload_n C dL_act_729 0 rfl ?_
      refine z_iload C dL_act_730 5 rfl ?_
      refine z_iload C dL_act_732 4 rfl ?_
      refine z_iload C dL_act_734 3 rfl ?_
      refine z_callV C (zM.fl (c_X2_bid l g q a bs wb pd gw hi9 hs r649 m pr (by omega) hm0 hm hp h12) (wS g p2 (zBid a r649 m pr) sm)) (cwV 3 C.ts gL_act_X2_bid rfl rfl rfl (by decide +kernel) ⟨Nat.le_of_ble_eq_true rfl, Nat.le_of_ble_eq_true rfl⟩) (zapp_l wB_o) rfl rfl rfl (Nat.le_of_ble_eq_true rfl) dL_act_736 ⟨by dsimp only; omega, by dsimp only; omega⟩ ?_
      rintro _ _ ⟨_, ⟨rfl, bs1, wb1, pd1, gw1, rfl, hs1⟩, rfl⟩
      refine zW.eqst (st2 := [.int (nI (zNb a))]) rfl ?_
      refine z_iload C dL_act_739 2 rfl ?_
      refine z_icmp_ne C 748 dL_act_741 (by decide) (zeq_NN (by omega) (by omega)) (fun h9 => absurd rfl h9) (fun c_741 => ?_)
      refine z_iconst C (nI 1) dL_act_744 (by decide) ?_
      refine z_goto C 749 dL_act_745 (by decide) ?_
      refine zW.wid (k := 2) (n := 17) (by omega) (by omega) ?_
      exact z_zretE (b := true) C dL_act_749 rfl ⟨_, _, _, _, _, _, _, rfl, hp2, h1, hs1⟩
    | succ k ih666 =>
      intro i hik
      refine z_iload C dL_act_666 7 rfl ?_
      refine z_iload C dL_act_668 2 rfl ?_
      refine z_icmp_ge C 691 dL_act_670 (by decide) (zle_NN (by omega) (by omega)) (fun h9 => absurd h9 (by omega)) (fun c_670 => ?_)
      refine z_aload C dL_act_673 6 rfl ?_
      refine z_iload C dL_act_675 7 rfl ?_
      refine z_aload_n C dL_act_677 1 rfl ?_
      refine z_get C inL_act_X3 (20 + 0) (zapp_B (zapp_l wS_o)) rfl 2 (by decide) (C.w 3 rfl) rfl dL_act_678 ?_
      refine z_iload C dL_act_681 7 rfl ?_
      refine z_aald C (20 + 3) (zapp_B (zapp_l wS_bi)) (by omega) (by omega) dL_act_683 (zPt_at (by omega)) ?_
      refine z_aast C (20 + ((wS g p a sm).length + 0)) (20 + (4 + i)) (zapp_B (zapp_r (k := 0) rfl)) (zapp_B (zapp_l (wS_row (b := i) (by omega)))) (by omega) (by omega) dL_act_684 (zset_B (zapp_setk (k := 0) (by rw [zPa_s] <;> rfl))) ?_
      refine z_iinc C dL_act_685 7 (nI (i + 1)) rfl (nI_add i 1) (by decide) [(19, .int (nI (i + 1))), (0, .ref (q 0)), (1, .ref (p 0)), (5, .int (nI (zNb a))), (7, .int (nI pr)), (16, .int (nI m)), (17, .int (nI r649)), (18, .ref x658)] rfl ?_
      refine z_goto C 666 dL_act_688 (by decide) ?_
      refine zW.pick (lv' := [(0, .ref (q 0)), (1, .ref (p 0)), (5, .int (nI (zNb a))), (7, .int (nI pr)), (16, .int (nI m)), (17, .int (nI r649)), (18, .ref x658), (19, .int (nI (i + 1)))]) [1, 2, 3, 4, 5, 6, 7, 0] rfl ?_
      exact ih666 (i + 1) (by omega)
  exact hlp666 (zNb a) 0 (by omega)
set_option maxRecDepth 100000 in
set_option maxHeartbeats 4000000 in
theorem act_589 (l : Launch) (g : zG) (q p : Nat → Nat) (a : zS) (bs : Nat → Int × Nat) (wb pd gw : Nat → Nat → Int) (sm : Int × Nat × Nat) (x : Int32) (hi9 : zInv a) (hs : zSet a bs wb pd gw 0 0) (E : zEnv) (C : zC g E cL_act RL wsL_act 20 (some .boolean)) (b pr : Nat) (hb : zNb a = 0 ∨ b < zNb a) (hp : pr ≤ 999) : zW g l ({ frames := 31, cells := 2, slots := 17, locals := 822 }) E (zMQ g E (zPie (bI true) (zBoth g q (p 0))) 2 17) 20 0 0 (wB g q a (zG0 a) bs wb pd gw ++ (wS g p a sm)) [(0, .ref (q 0)), (1, .ref (p 0)), (2, .int x), (3, .int (nI (zNf a))), (4, .int (nI (zNd a))), (5, .int (nI (zNb a))), (6, .int (nI b)), (7, .int (nI pr))] [] 589 := by
  have ha := hi9.1
  obtain ⟨hnf, hnd, hnb, hou, hrs, hbd⟩ := id ha
  have p8 : 2 ^ zNf a ≤ 2 ^ 8 := zp2_le hnf
  refine z_iload_n C dL_act_589 3 rfl ?_
  refine z_if_eq C 605 dL_act_590 (by decide) (zeq_N0 (by omega)) (fun c_590 => ?_) (fun c_590 => ?_)
  · skip
    refine z_iconst C (nI 1) dL_act_605 (by decide) ?_
    refine zW.wid (k := 2) (n := 17) (by omega) (by omega) ?_
    exact z_zretE (b := true) C dL_act_606 rfl ⟨_, _, _, _, _, _, _, rfl, rfl, hi9, hs⟩
  · skip
    refine z_iload C dL_act_593 4 rfl ?_
    refine z_if_eq C 605 dL_act_595 (by decide) (zeq_N0 (by omega)) (fun c_595 => ?_) (fun c_595 => ?_)
    · skip
      refine z_iconst C (nI 1) dL_act_605 (by decide) ?_
      refine zW.wid (k := 2) (n := 17) (by omega) (by omega) ?_
      exact z_zretE (b := true) C dL_act_606 rfl ⟨_, _, _, _, _, _, _, rfl, rfl, hi9, hs⟩
    · skip
      refine z_iload C dL_act_598 5 rfl ?_
      refine z_bipush C (nI 12) dL_act_600 (by decide) ?_
      refine z_icmp_ne C 607 dL_act_602 (by decide) (zeq_NN (by omega) (by omega)) (fun c_602 => ?_) (fun c_602 => ?_)
      · skip
        refine z_iload_n C dL_act_607 2 rfl ?_
        refine z_iconst C (nI 4) dL_act_608 (by decide) ?_
        refine z_ishr C dL_act_609 (v := (x >>> ((nI 4) &&& 31))) rfl ?_
        refine z_iconst C (nI 3) dL_act_610 (by decide) ?_
        refine z_callS C (c_L_below l g (wB g q a (zG0 a) bs wb pd gw ++ (wS g p a sm)) (x >>> ((nI 4) &&& 31)) 3 (by omega) (by omega)) (va_cwS 2 C.ts gL_act_L_below rfl rfl rfl (by decide +kernel) ⟨Nat.le_of_ble_eq_true rfl, Nat.le_of_ble_eq_true rfl⟩) rfl rfl (Nat.le_of_ble_eq_true rfl) dL_act_611 ⟨by dsimp only; omega, by dsimp only; omega⟩ ?_
        rintro _ _ ⟨rfl, rfl⟩
        refine zW.eqst (st2 := [.int (nI (zBe (x >>> ((nI 4) &&& 31)) 3))]) rfl ?_
        obtain ⟨r611, hr611, hl611⟩ : ∃ r, zBe (x >>> ((nI 4) &&& 31)) 3 = r ∧ r < 3 := ⟨_, rfl, zBe_lt _ (by omega)⟩
        refine zW.top (y := nI r611) (congrArg nI hr611) ?_
        refine z_if_ne C 629 dL_act_614 (by decide) (zeq_N0 (by omega)) (fun c_614 => ?_) (fun c_614 => ?_)
        · skip
          have p2 : 2 ^ 1 ≤ 2 ^ zNf a := zp2_le (by omega)
          refine z_iconst C (nI 1) dL_act_629 (by decide) ?_
          refine z_iload_n C dL_act_630 2 rfl ?_
          refine z_iconst C (nI 2) dL_act_631 (by decide) ?_
          refine z_ishr C dL_act_632 (v := (x >>> ((nI 2) &&& 31))) rfl ?_
          refine z_iconst C (nI 1) dL_act_633 (by decide) ?_
          refine z_iload_n C dL_act_634 3 rfl ?_
          refine z_ishl C dL_act_635 (v := nI (2 ^ (zNf a))) (zshl_1N (by omega)) ?_
          refine z_iconst C (nI 1) dL_act_636 (by decide) ?_
          refine z_isub C dL_act_637 (v := nI (2 ^ zNf a - 1)) (pk_sub (by omega)) ?_
          refine z_callS C (c_L_below l g (wB g q a (zG0 a) bs wb pd gw ++ (wS g p a sm)) (x >>> ((nI 2) &&& 31)) (2 ^ zNf a - 1) (by omega) (by omega)) (va_cwS 2 C.ts gL_act_L_below rfl rfl rfl (by decide +kernel) ⟨Nat.le_of_ble_eq_true rfl, Nat.le_of_ble_eq_true rfl⟩) rfl rfl (Nat.le_of_ble_eq_true rfl) dL_act_638 ⟨by dsimp only; omega, by dsimp only; omega⟩ ?_
          rintro _ _ ⟨rfl, rfl⟩
          refine zW.eqst (st2 := [.int (nI (zBe (x >>> ((nI 2) &&& 31)) (2 ^ zNf a - 1))), .int (nI 1)]) rfl ?_
          obtain ⟨r638, hr638, hl638⟩ : ∃ r, zBe (x >>> ((nI 2) &&& 31)) (2 ^ zNf a - 1) = r ∧ r < 2 ^ zNf a - 1 := ⟨_, rfl, zBe_lt _ (by omega)⟩
          refine zW.top (y := nI r638) (congrArg nI hr638) ?_
          refine z_iadd C dL_act_641 (v := nI (1 + r638)) (nI_add 1 r638) ?_
          refine z_istore C dL_act_642 (by decide) [(16, .int (nI (1 + r638))), (0, .ref (q 0)), (1, .ref (p 0)), (2, .int x), (3, .int (nI (zNf a))), (4, .int (nI (zNd a))), (5, .int (nI (zNb a))), (6, .int (nI b)), (7, .int (nI pr))] rfl ?_
          refine zW.pick (lv' := [(0, .ref (q 0)), (1, .ref (p 0)), (2, .int x), (3, .int (nI (zNf a))), (4, .int (nI (zNd a))), (5, .int (nI (zNb a))), (6, .int (nI b)), (7, .int (nI pr)), (16, .int (nI (1 + r638)))]) [1, 2, 3, 4, 5, 6, 7, 8, 0] rfl ?_
          exact act_644 l g q p a bs wb pd gw sm x hi9 hs E C b pr hb hp (1 + r638) (by omega) (by omega) (by omega) (by omega)
        · skip
          refine z_iconst C (nI 1) dL_act_617 (by decide) ?_
          refine z_iload_n C dL_act_618 2 rfl ?_
          refine z_iconst C (nI 1) dL_act_619 (by decide) ?_
          refine z_ishr C dL_act_620 (v := (x >>> ((nI 1) &&& 31))) rfl ?_
          refine z_iload_n C dL_act_621 3 rfl ?_
          refine z_callS C (c_L_below l g (wB g q a (zG0 a) bs wb pd gw ++ (wS g p a sm)) (x >>> ((nI 1) &&& 31)) (zNf a) (by omega) (by omega)) (va_cwS 2 C.ts gL_act_L_below rfl rfl rfl (by decide +kernel) ⟨Nat.le_of_ble_eq_true rfl, Nat.le_of_ble_eq_true rfl⟩) rfl rfl (Nat.le_of_ble_eq_true rfl) dL_act_622 ⟨by dsimp only; omega, by dsimp only; omega⟩ ?_
          rintro _ _ ⟨rfl, rfl⟩
          refine zW.eqst (st2 := [.int (nI (zBe (x >>> ((nI 1) &&& 31)) (zNf a))), .int (nI 1)]) rfl ?_
          obtain ⟨r622, hr622, hl622⟩ : ∃ r, zBe (x >>> ((nI 1) &&& 31)) (zNf a) = r ∧ r < zNf a := ⟨_, rfl, zBe_lt _ (by omega)⟩
          refine zW.top (y := nI r622) (congrArg nI hr622) ?_
          refine z_ishl C dL_act_625 (v := nI (2 ^ r622)) (zshl_1N (by omega)) ?_
          refine z_goto C 642 dL_act_626 (by decide) ?_
          refine z_istore C dL_act_642 (by decide) [(16, .int (nI (2 ^ r622))), (0, .ref (q 0)), (1, .ref (p 0)), (2, .int x), (3, .int (nI (zNf a))), (4, .int (nI (zNd a))), (5, .int (nI (zNb a))), (6, .int (nI b)), (7, .int (nI pr))] rfl ?_
          refine zW.pick (lv' := [(0, .ref (q 0)), (1, .ref (p 0)), (2, .int x), (3, .int (nI (zNf a))), (4, .int (nI (zNd a))), (5, .int (nI (zNb a))), (6, .int (nI b)), (7, .int (nI pr)), (16, .int (nI (2 ^ r622)))]) [1, 2, 3, 4, 5, 6, 7, 8, 0] rfl ?_
          exact act_644 l g q p a bs wb pd gw sm x hi9 hs E C b pr hb hp (2 ^ r622) (Nat.two_pow_pos _) (Nat.pow_lt_pow_right (by decide) (by omega)) (by omega) (by omega)
      · skip
        refine z_iconst C (nI 1) dL_act_605 (by decide) ?_
        refine zW.wid (k := 2) (n := 17) (by omega) (by omega) ?_
        exact z_zretE (b := true) C dL_act_606 rfl ⟨_, _, _, _, _, _, _, rfl, rfl, hi9, hs⟩
set_option maxRecDepth 100000 in
set_option maxHeartbeats 4000000 in
theorem act_64 (l : Launch) (g : zG) (q p : Nat → Nat) (a : zS) (bs : Nat → Int × Nat) (wb pd gw : Nat → Nat → Int) (sm : Int × Nat × Nat) (x : Int32) (hi9 : zInv a) (hs : zSet a bs wb pd gw 0 0) (E : zEnv) (C : zC g E cL_act RL wsL_act 20 (some .boolean)) (b pr : Nat) (hb : zNb a = 0 ∨ b < zNb a) (hp : pr ≤ 999) : zW g l ({ frames := 31, cells := 2, slots := 17, locals := 822 }) E (zMQ g E (zPie (bI true) (zBoth g q (p 0))) 2 17) 20 0 0 (wB g q a (zG0 a) bs wb pd gw ++ (wS g p a sm)) [(0, .ref (q 0)), (1, .ref (p 0)), (2, .int x), (3, .int (nI (zNf a))), (4, .int (nI (zNd a))), (5, .int (nI (zNb a))), (6, .int (nI b)), (7, .int (nI pr))] [] 64 := by
  have ha := hi9.1
  obtain ⟨hnf, hnd, hnb, hou, hrs, hbd⟩ := id ha
  refine z_iload_n C dL_act_64 2 rfl ?_
  refine z_bipush C (nI 9) dL_act_65 (by decide) ?_
  refine z_ishr C dL_act_67 (v := (x >>> ((nI 9) &&& 31))) rfl ?_
  refine z_bipush C (nI 16) dL_act_68 (by decide) ?_
  refine z_callS C (c_L_below l g (wB g q a (zG0 a) bs wb pd gw ++ (wS g p a sm)) (x >>> ((nI 9) &&& 31)) 16 (by omega) (by omega)) (va_cwS 2 C.ts gL_act_L_below rfl rfl rfl (by decide +kernel) ⟨Nat.le_of_ble_eq_true rfl, Nat.le_of_ble_eq_true rfl⟩) rfl rfl (Nat.le_of_ble_eq_true rfl) dL_act_70 ⟨by dsimp only; omega, by dsimp only; omega⟩ ?_
  rintro _ _ ⟨rfl, rfl⟩
  refine zW.eqst (st2 := [.int (nI (zBe (x >>> ((nI 9) &&& 31)) 16))]) rfl ?_
  obtain ⟨r70, hr70, hl70⟩ : ∃ r, zBe (x >>> ((nI 9) &&& 31)) 16 = r ∧ r < 16 := ⟨_, rfl, zBe_lt _ (by omega)⟩
  refine zW.top (y := nI r70) (congrArg nI hr70) ?_
  rcases (show r70 = 0 ∨ r70 = 1 ∨ r70 = 2 ∨ r70 = 3 ∨ r70 = 4 ∨ r70 = 5 ∨ r70 = 6 ∨ r70 = 7 ∨ r70 = 8 ∨ 9 ≤ r70 by omega) with h9 | h9 | h9 | h9 | h9 | h9 | h9 | h9 | h9 | h9
  · skip
    refine zW.top (y := nI 0) (by rw [h9]) ?_
    refine z_tabIn C 124 dL_act_73 (by decide) (by decide) (off := 51) (by decide) (by decide) ?_
    exact act_124 l g q p a bs wb pd gw sm x hi9 hs E C b pr hb hp
  · skip
    refine zW.top (y := nI 1) (by rw [h9]) ?_
    refine z_tabIn C 184 dL_act_73 (by decide) (by decide) (off := 111) (by decide) (by decide) ?_
    exact act_184 l g q p a bs wb pd gw sm x hi9 hs E C b pr hb hp
  · skip
    refine zW.top (y := nI 2) (by rw [h9]) ?_
    refine z_tabIn C 247 dL_act_73 (by decide) (by decide) (off := 174) (by decide) (by decide) ?_
    exact act_247 l g q p a bs wb pd gw sm x hi9 hs E C b pr hb hp
  · skip
    refine zW.top (y := nI 3) (by rw [h9]) ?_
    refine z_tabIn C 318 dL_act_73 (by decide) (by decide) (off := 245) (by decide) (by decide) ?_
    exact act_318 l g q p a bs wb pd gw sm x hi9 hs E C b pr hb hp
  · skip
    refine zW.top (y := nI 4) (by rw [h9]) ?_
    refine z_tabIn C 318 dL_act_73 (by decide) (by decide) (off := 245) (by decide) (by decide) ?_
    exact act_318 l g q p a bs wb pd gw sm x hi9 hs E C b pr hb hp
  · skip
    refine zW.top (y := nI 5) (by rw [h9]) ?_
    refine z_tabIn C 390 dL_act_73 (by decide) (by decide) (off := 317) (by decide) (by decide) ?_
    exact act_390 l g q p a bs wb pd gw sm x hi9 hs E C b pr hb hp
  · skip
    refine zW.top (y := nI 6) (by rw [h9]) ?_
    refine z_tabIn C 390 dL_act_73 (by decide) (by decide) (off := 317) (by decide) (by decide) ?_
    exact act_390 l g q p a bs wb pd gw sm x hi9 hs E C b pr hb hp
  · skip
    refine zW.top (y := nI 7) (by rw [h9]) ?_
    refine z_tabIn C 438 dL_act_73 (by decide) (by decide) (off := 365) (by decide) (by decide) ?_
    exact act_438 l g q p a bs wb pd gw sm x hi9 hs E C b pr hb hp
  · skip
    refine zW.top (y := nI 8) (by rw [h9]) ?_
    refine z_tabIn C 486 dL_act_73 (by decide) (by decide) (off := 413) (by decide) (by decide) ?_
    exact act_486 l g q p a bs wb pd gw sm x hi9 hs E C b pr hb hp
  · skip
    refine z_tabOut C 589 dL_act_73 (Or.inr (by rw [nI_toInt (by omega)]; omega)) (by decide) ?_
    exact act_589 l g q p a bs wb pd gw sm x hi9 hs E C b pr hb hp
set_option maxRecDepth 100000 in
set_option maxHeartbeats 4000000 in
theorem c_L_act (l : Launch) (g : zG) (q p : Nat → Nat) (a : zS) (bs : Nat → Int × Nat) (wb pd gw : Nat → Nat → Int) (sm : Int × Nat × Nat) (x : Int32) (hi9 : zInv a) (hs : zSet a bs wb pd gw 0 0) : zM g l yL_act wsL_act { frames := 31, cells := 2, slots := 17, locals := 822 } [.ref (q 0), .ref (p 0), .int x] (wB g q a (zG0 a) bs wb pd gw ++ (wS g p a sm)) (zPie (bI true) (zBoth g q (p 0))) 2 17 := by
  refine zM.of (cc := cL_act) (nL := 20) (ret := (some .boolean)) (lv := [(0, .ref (q 0)), (1, .ref (p 0)), (2, .int x)]) (by decide) rfl (Nat.le_of_ble_eq_true rfl) rfl ?_
  intro E C0 hi
  have C : zC g E cL_act RL wsL_act 20 (some .boolean) := C0
  have ha := hi9.1
  obtain ⟨hnf, hnd, hnb, hou, hrs, hbd⟩ := id ha
  refine z_aload_n C dL_act_0 1 rfl ?_
  refine z_get C inL_act_X3 (20 + 0) (zapp_B wS_o) rfl 0 (by decide) (C.w 1 rfl) rfl dL_act_1 ?_
  refine z_alenI C (20 + 1) (zapp_B wS_rs) dL_act_4 ?_
  refine z_istore_n C dL_act_5 (by decide) [(3, .int (nI (zNf a))), (0, .ref (q 0)), (1, .ref (p 0)), (2, .int x)] rfl ?_
  refine z_aload_n C dL_act_6 2 rfl ?_
  refine z_get C inL_act_X3 (20 + 0) (zapp_B wS_o) rfl 1 (by decide) (C.w 2 rfl) rfl dL_act_7 ?_
  refine z_alenZ C (20 + 2) (zapp_B wS_in) dL_act_10 ?_
  refine z_istore C dL_act_11 (by decide) [(4, .int (nI (zNd a))), (3, .int (nI (zNf a))), (0, .ref (q 0)), (1, .ref (p 0)), (2, .int x)] rfl ?_
  refine z_aload_n C dL_act_13 3 rfl ?_
  refine z_get C inL_act_X3 (20 + 0) (zapp_B wS_o) rfl 2 (by decide) (C.w 3 rfl) rfl dL_act_14 ?_
  refine z_alenR C (20 + 3) (zapp_B wS_bi) dL_act_17 ?_
  refine z_istore C dL_act_18 (by decide) [(5, .int (nI (zNb a))), (4, .int (nI (zNd a))), (3, .int (nI (zNf a))), (0, .ref (q 0)), (1, .ref (p 0)), (2, .int x)] rfl ?_
  refine z_iload C dL_act_20 0 rfl ?_
  refine z_if_ne C 29 dL_act_22 (by decide) (zeq_N0 (by omega)) (fun c_22 => ?_) (fun c_22 => ?_)
  · skip
    refine z_iload_n C dL_act_29 5 rfl ?_
    refine z_iconst C (nI 1) dL_act_30 (by decide) ?_
    refine z_ishr C dL_act_31 (v := (x >>> ((nI 1) &&& 31))) rfl ?_
    refine z_iload C dL_act_32 0 rfl ?_
    refine z_callS C (c_L_below l g (wB g q a (zG0 a) bs wb pd gw ++ (wS g p a sm)) (x >>> ((nI 1) &&& 31)) (zNb a) (by omega) (by omega)) (va_cwS 2 C.ts gL_act_L_below rfl rfl rfl (by decide +kernel) ⟨Nat.le_of_ble_eq_true rfl, Nat.le_of_ble_eq_true rfl⟩) rfl rfl (Nat.le_of_ble_eq_true rfl) dL_act_34 ⟨by dsimp only; omega, by dsimp only; omega⟩ ?_
    rintro _ _ ⟨rfl, rfl⟩
    refine zW.eqst (st2 := [.int (nI (zBe (x >>> ((nI 1) &&& 31)) (zNb a)))]) rfl ?_
    obtain ⟨r34, hr34, hl34⟩ : ∃ r, zBe (x >>> ((nI 1) &&& 31)) (zNb a) = r ∧ r < zNb a := ⟨_, rfl, zBe_lt _ (by omega)⟩
    refine zW.top (y := nI r34) (congrArg nI hr34) ?_
    refine z_istore C dL_act_37 (by decide) [(6, .int (nI r34)), (5, .int (nI (zNb a))), (4, .int (nI (zNd a))), (3, .int (nI (zNf a))), (0, .ref (q 0)), (1, .ref (p 0)), (2, .int x)] rfl ?_
    refine z_iload_n C dL_act_39 6 rfl ?_
    refine z_iconst C (nI 3) dL_act_40 (by decide) ?_
    refine z_ishr C dL_act_41 (v := (x >>> ((nI 3) &&& 31))) rfl ?_
    refine z_iload_n C dL_act_42 6 rfl ?_
    refine z_iconst C (nI 3) dL_act_43 (by decide) ?_
    refine z_callS C (c_L_below l g (wB g q a (zG0 a) bs wb pd gw ++ (wS g p a sm)) x 3 (by omega) (by omega)) (va_cwS 2 C.ts gL_act_L_below rfl rfl rfl (by decide +kernel) ⟨Nat.le_of_ble_eq_true rfl, Nat.le_of_ble_eq_true rfl⟩) rfl rfl (Nat.le_of_ble_eq_true rfl) dL_act_44 ⟨by dsimp only; omega, by dsimp only; omega⟩ ?_
    rintro _ _ ⟨rfl, rfl⟩
    refine zW.eqst (st2 := [.int (nI (zBe x 3)), .int (x >>> ((nI 3) &&& 31))]) rfl ?_
    obtain ⟨r44, hr44, hl44⟩ : ∃ r, zBe x 3 = r ∧ r < 3 := ⟨_, rfl, zBe_lt _ (by omega)⟩
    refine zW.top (y := nI r44) (congrArg nI hr44) ?_
    refine z_if_ne C 56 dL_act_47 (by decide) (zeq_N0 (by omega)) (fun c_47 => ?_) (fun c_47 => ?_)
    · skip
      refine z_sipush C (nI 200) dL_act_56 (by decide) ?_
      refine z_callS C (c_L_below l g (wB g q a (zG0 a) bs wb pd gw ++ (wS g p a sm)) (x >>> ((nI 3) &&& 31)) 200 (by omega) (by omega)) (va_cwS 2 C.ts gL_act_L_below rfl rfl rfl (by decide +kernel) ⟨Nat.le_of_ble_eq_true rfl, Nat.le_of_ble_eq_true rfl⟩) rfl rfl (Nat.le_of_ble_eq_true rfl) dL_act_59 ⟨by dsimp only; omega, by dsimp only; omega⟩ ?_
      rintro _ _ ⟨rfl, rfl⟩
      refine zW.eqst (st2 := [.int (nI (zBe (x >>> ((nI 3) &&& 31)) 200))]) rfl ?_
      obtain ⟨r59, hr59, hl59⟩ : ∃ r, zBe (x >>> ((nI 3) &&& 31)) 200 = r ∧ r < 200 := ⟨_, rfl, zBe_lt _ (by omega)⟩
      refine zW.top (y := nI r59) (congrArg nI hr59) ?_
      refine z_istore C dL_act_62 (by decide) [(7, .int (nI r59)), (6, .int (nI r34)), (5, .int (nI (zNb a))), (4, .int (nI (zNd a))), (3, .int (nI (zNf a))), (0, .ref (q 0)), (1, .ref (p 0)), (2, .int x)] rfl ?_
      refine zW.pick (lv' := [(0, .ref (q 0)), (1, .ref (p 0)), (2, .int x), (3, .int (nI (zNf a))), (4, .int (nI (zNd a))), (5, .int (nI (zNb a))), (6, .int (nI r34)), (7, .int (nI r59))]) [5, 6, 7, 4, 3, 2, 1, 0] rfl ?_
      exact act_64 l g q p a bs wb pd gw sm x hi9 hs E C r34 r59 (Or.inr (by omega)) (by omega)
    · skip
      refine z_sipush C (nI 1000) dL_act_50 (by decide) ?_
      refine z_goto C 59 dL_act_53 (by decide) ?_
      refine z_callS C (c_L_below l g (wB g q a (zG0 a) bs wb pd gw ++ (wS g p a sm)) (x >>> ((nI 3) &&& 31)) 1000 (by omega) (by omega)) (va_cwS 2 C.ts gL_act_L_below rfl rfl rfl (by decide +kernel) ⟨Nat.le_of_ble_eq_true rfl, Nat.le_of_ble_eq_true rfl⟩) rfl rfl (Nat.le_of_ble_eq_true rfl) dL_act_59 ⟨by dsimp only; omega, by dsimp only; omega⟩ ?_
      rintro _ _ ⟨rfl, rfl⟩
      refine zW.eqst (st2 := [.int (nI (zBe (x >>> ((nI 3) &&& 31)) 1000))]) rfl ?_
      obtain ⟨r59, hr59, hl59⟩ : ∃ r, zBe (x >>> ((nI 3) &&& 31)) 1000 = r ∧ r < 1000 := ⟨_, rfl, zBe_lt _ (by omega)⟩
      refine zW.top (y := nI r59) (congrArg nI hr59) ?_
      refine z_istore C dL_act_62 (by decide) [(7, .int (nI r59)), (6, .int (nI r34)), (5, .int (nI (zNb a))), (4, .int (nI (zNd a))), (3, .int (nI (zNf a))), (0, .ref (q 0)), (1, .ref (p 0)), (2, .int x)] rfl ?_
      refine zW.pick (lv' := [(0, .ref (q 0)), (1, .ref (p 0)), (2, .int x), (3, .int (nI (zNf a))), (4, .int (nI (zNd a))), (5, .int (nI (zNb a))), (6, .int (nI r34)), (7, .int (nI r59))]) [5, 6, 7, 4, 3, 2, 1, 0] rfl ?_
      exact act_64 l g q p a bs wb pd gw sm x hi9 hs E C r34 r59 (Or.inr (by omega)) (by omega)
  · skip
    refine z_iconst C (nI 0) dL_act_25 (by decide) ?_
    refine z_goto C 37 dL_act_26 (by decide) ?_
    refine z_istore C dL_act_37 (by decide) [(6, .int (nI 0)), (5, .int (nI (zNb a))), (4, .int (nI (zNd a))), (3, .int (nI (zNf a))), (0, .ref (q 0)), (1, .ref (p 0)), (2, .int x)] rfl ?_
    refine z_iload_n C dL_act_39 6 rfl ?_
    refine z_iconst C (nI 3) dL_act_40 (by decide) ?_
    refine z_ishr C dL_act_41 (v := (x >>> ((nI 3) &&& 31))) rfl ?_
    refine z_iload_n C dL_act_42 6 rfl ?_
    refine z_iconst C (nI 3) dL_act_43 (by decide) ?_
    refine z_callS C (c_L_below l g (wB g q a (zG0 a) bs wb pd gw ++ (wS g p a sm)) x 3 (by omega) (by omega)) (va_cwS 2 C.ts gL_act_L_below rfl rfl rfl (by decide +kernel) ⟨Nat.le_of_ble_eq_true rfl, Nat.le_of_ble_eq_true rfl⟩) rfl rfl (Nat.le_of_ble_eq_true rfl) dL_act_44 ⟨by dsimp only; omega, by dsimp only; omega⟩ ?_
    rintro _ _ ⟨rfl, rfl⟩
    refine zW.eqst (st2 := [.int (nI (zBe x 3)), .int (x >>> ((nI 3) &&& 31))]) rfl ?_
    obtain ⟨r44, hr44, hl44⟩ : ∃ r, zBe x 3 = r ∧ r < 3 := ⟨_, rfl, zBe_lt _ (by omega)⟩
    refine zW.top (y := nI r44) (congrArg nI hr44) ?_
    refine z_if_ne C 56 dL_act_47 (by decide) (zeq_N0 (by omega)) (fun c_47 => ?_) (fun c_47 => ?_)
    · skip
      refine z_sipush C (nI 200) dL_act_56 (by decide) ?_
      refine z_callS C (c_L_below l g (wB g q a (zG0 a) bs wb pd gw ++ (wS g p a sm)) (x >>> ((nI 3) &&& 31)) 200 (by omega) (by omega)) (va_cwS 2 C.ts gL_act_L_below rfl rfl rfl (by decide +kernel) ⟨Nat.le_of_ble_eq_true rfl, Nat.le_of_ble_eq_true rfl⟩) rfl rfl (Nat.le_of_ble_eq_true rfl) dL_act_59 ⟨by dsimp only; omega, by dsimp only; omega⟩ ?_
      rintro _ _ ⟨rfl, rfl⟩
      refine zW.eqst (st2 := [.int (nI (zBe (x >>> ((nI 3) &&& 31)) 200))]) rfl ?_
      obtain ⟨r59, hr59, hl59⟩ : ∃ r, zBe (x >>> ((nI 3) &&& 31)) 200 = r ∧ r < 200 := ⟨_, rfl, zBe_lt _ (by omega)⟩
      refine zW.top (y := nI r59) (congrArg nI hr59) ?_
      refine z_istore C dL_act_62 (by decide) [(7, .int (nI r59)), (6, .int (nI 0)), (5, .int (nI (zNb a))), (4, .int (nI (zNd a))), (3, .int (nI (zNf a))), (0, .ref (q 0)), (1, .ref (p 0)), (2, .int x)] rfl ?_
      refine zW.pick (lv' := [(0, .ref (q 0)), (1, .ref (p 0)), (2, .int x), (3, .int (nI (zNf a))), (4, .int (nI (zNd a))), (5, .int (nI (zNb a))), (6, .int (nI 0)), (7, .int (nI r59))]) [5, 6, 7, 4, 3, 2, 1, 0] rfl ?_
      exact act_64 l g q p a bs wb pd gw sm x hi9 hs E C 0 r59 (Or.inl (by omega)) (by omega)
    · skip
      refine z_sipush C (nI 1000) dL_act_50 (by decide) ?_
      refine z_goto C 59 dL_act_53 (by decide) ?_
      refine z_callS C (c_L_below l g (wB g q a (zG0 a) bs wb pd gw ++ (wS g p a sm)) (x >>> ((nI 3) &&& 31)) 1000 (by omega) (by omega)) (va_cwS 2 C.ts gL_act_L_below rfl rfl rfl (by decide +kernel) ⟨Nat.le_of_ble_eq_true rfl, Nat.le_of_ble_eq_true rfl⟩) rfl rfl (Nat.le_of_ble_eq_true rfl) dL_act_59 ⟨by dsimp only; omega, by dsimp only; omega⟩ ?_
      rintro _ _ ⟨rfl, rfl⟩
      refine zW.eqst (st2 := [.int (nI (zBe (x >>> ((nI 3) &&& 31)) 1000))]) rfl ?_
      obtain ⟨r59, hr59, hl59⟩ : ∃ r, zBe (x >>> ((nI 3) &&& 31)) 1000 = r ∧ r < 1000 := ⟨_, rfl, zBe_lt _ (by omega)⟩
      refine zW.top (y := nI r59) (congrArg nI hr59) ?_
      refine z_istore C dL_act_62 (by decide) [(7, .int (nI r59)), (6, .int (nI 0)), (5, .int (nI (zNb a))), (4, .int (nI (zNd a))), (3, .int (nI (zNf a))), (0, .ref (q 0)), (1, .ref (p 0)), (2, .int x)] rfl ?_
      refine zW.pick (lv' := [(0, .ref (q 0)), (1, .ref (p 0)), (2, .int x), (3, .int (nI (zNf a))), (4, .int (nI (zNd a))), (5, .int (nI (zNb a))), (6, .int (nI 0)), (7, .int (nI r59))]) [5, 6, 7, 4, 3, 2, 1, 0] rfl ?_
      exact act_64 l g q p a bs wb pd gw sm x hi9 hs E C 0 r59 (Or.inl (by omega)) (by omega)
