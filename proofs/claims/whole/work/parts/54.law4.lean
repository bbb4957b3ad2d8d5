theorem zL_m {g : zG} {q p : Nat → Nat} {qo : Nat} {a m : zS} {bs : Nat → Int × Nat} {wb pd gw : Nat → Nat → Int} {fo : Nat → Int64} {th : Int} {la : Nat → Int} {pe : Nat → Nat} {ga : Nat → Int} {sz : Nat → Nat} : (((wB g q a (zG0 a) bs wb pd gw ++ [(qo, .inl (zJ g, 1, .inr (.inl fo)))]) ++ wM g p th m la pe ga sz) ++ ([] : va_W))[21]? = some (p 0, .inr (3, [.int (iZ th), .int (nI (zNf m)), .int (nI (zNd m)), .int (nI (zNb m)), .int (nI (zOu m)), .ref (p 1), .ref (p 2), .ref (p 3), .ref (p 4), .ref (p 5), .ref (p 6)])) := rfl
set_option maxRecDepth 100000 in
set_option maxHeartbeats 4000000 in
theorem s_field (l : Launch) (hl9 : l.stackTraces = false) (g : zG) (E : zEnv) (Q : State → Prop) (C : zC g E cL_law RL wsL_law 9 (some .boolean)) (F : zFx (zA E) (zs E) (zs E).heap) {b L : Nat} {xs : Nat → Int32} (S : zSc E b L xs) (q p : Nat → Nat) (qo : Nat) (a : zS) (hi : zInv a) (i : Nat) (hiL : i + 4 ≤ L) {c s : Nat} (hc : c + 8 ≤ 601024) (hs : s + 64 ≤ 7293034) (W0 : va_W) (hW : zLd g q p qo a W0) (kk : ∀ (a' : zS) (W' : va_W), zInv a' → zLd g q p qo a' W' → zW g l room_1 E Q 9 (c + 8) (s + 64) W' [(0, .ref b), (1, .ref (q 0)), (2, .ref (p 0)), (3, .ref qo), (4, .int (nI i))] [] 1187) : zW g l room_1 E Q 9 c s W0 [(0, .ref b), (1, .ref (q 0)), (2, .ref (p 0)), (3, .ref qo), (4, .int (nI i))] [] 124 := by
  obtain ⟨bs, wb, pd, gw, fo, th, la, pe, ga, sz, rfl, hs9, h0⟩ := hW
  have hLs := S.2.2.2
  refine zW.eqw (ws2 := (wB g q a (zG0 a) bs wb pd gw ++ [(qo, .inl (zJ g, 1, .inr (.inl fo)))]) ++ wM g p th a la pe ga sz) rfl ?_
  refine z_aload_n C dL_law_124 1 rfl ?_
  refine z_aload_n C dL_law_125 0 rfl ?_
  refine z_iload C dL_law_126 4 rfl ?_
  refine z_iconst C (nI 1) dL_law_128 (by decide) ?_
  refine z_iadd C dL_law_129 (v := nI (i + 1)) (nI_add i 1) ?_
  refine z_sld C S (j := i + 1) (by omega) dL_law_130 ?_
  refine z_aload_n C dL_law_131 3 rfl ?_
  obtain ⟨k, v, a2, h, hk, hi2⟩ := sp_field_ex hi (xs (i + 1))
  refine z_callSW (mc := 1) (ms := 6) C F (zMH.fr (w_field l g q a bs wb pd gw qo fo hl9 hi hs9 (xs (i + 1)) h) [] (wM g p th a la pe ga sz)) (vx_cwSW 3 C.ts gL_law_L_field rfl rfl rfl (by decide +kernel) ⟨Nat.le_of_ble_eq_true rfl, Nat.le_of_ble_eq_true rfl⟩) rfl rfl (Nat.le_of_ble_eq_true rfl) dL_law_132 ⟨Nat.le_trans (m := c + 8) (by omega) hc, Nat.le_trans (m := s + 64) (by omega) hs⟩ ?_
  rintro _ _ ⟨_, ⟨rfl, _, fo2, ⟨bs2, wb2, pd2, gw2, rfl, hs2⟩, hv2, rfl⟩, rfl⟩
  refine zW.eqw (ws2 := (wB g q a2 (zG0 a2) bs2 wb2 pd2 gw2 ++ [(qo, .inl (zJ g, 1, .inr (.inl fo2)))]) ++ wM g p th a la pe ga sz) rfl ?_
  refine z_istore C dL_law_135 (by decide) [(5, .int (nI k)), (0, .ref b), (1, .ref (q 0)), (2, .ref (p 0)), (3, .ref qo), (4, .int (nI i))] rfl ?_
  refine z_aload_n C dL_law_137 3 rfl ?_
  refine z_aload_n C dL_law_138 1 rfl ?_
  refine z_iload C dL_law_139 5 rfl ?_
  refine z_iconst C (nI 1) dL_law_141 (by decide) ?_
  refine z_iadd C dL_law_142 (v := nI (i + 1)) (nI_add i 1) ?_
  refine z_sld C S (j := i + 1) (by omega) dL_law_143 ?_
  refine z_callV (mc := 0) (ms := 0) C (zM.fr (m_field l g p th a la pe ga sz hi h0 (xs (i + 1)) h) (wB g q a2 (zG0 a2) bs2 wb2 pd2 gw2 ++ [(qo, .inl (zJ g, 1, .inr (.inl fo2)))]) []) (cwV 1 C.ts gL_law_X3_field rfl rfl rfl (by decide +kernel) ⟨Nat.le_of_ble_eq_true rfl, Nat.le_of_ble_eq_true rfl⟩) zL_m rfl rfl rfl (Nat.le_of_ble_eq_true rfl) dL_law_144 ⟨Nat.le_trans (m := c + 8) (by omega) hc, Nat.le_trans (m := s + 64) (by omega) hs⟩ ?_
  rintro _ _ ⟨_, ⟨v2, rfl, hv3, la2, pe2, ga2, sz2, rfl, hz2⟩, rfl⟩
  refine zW.eqw (ws2 := (wB g q a2 (zG0 a2) bs2 wb2 pd2 gw2 ++ [(qo, .inl (zJ g, 1, .inr (.inl fo2)))]) ++ wM g p (k : Int) a2 la2 pe2 ga2 sz2) rfl ?_
  refine z_istore C dL_law_147 (by decide) [(6, .int v2), (5, .int (nI k)), (0, .ref b), (1, .ref (q 0)), (2, .ref (p 0)), (3, .ref qo), (4, .int (nI i))] rfl ?_
  refine z_aload_n C dL_law_149 4 rfl ?_
  refine z_callV (mc := 0) (ms := 0) C (zM.fr (c_X3_thrown l g p (k : Int) a2 la2 pe2 ga2 sz2) (wB g q a2 (zG0 a2) bs2 wb2 pd2 gw2 ++ [(qo, .inl (zJ g, 1, .inr (.inl fo2)))]) []) (cwV 0 C.ts gL_law_X3_thrown rfl rfl rfl (by decide +kernel) ⟨Nat.le_of_ble_eq_true rfl, Nat.le_of_ble_eq_true rfl⟩) zL_m rfl rfl rfl (Nat.le_of_ble_eq_true rfl) dL_law_150 ⟨Nat.le_trans (m := c + 8) (by omega) hc, Nat.le_trans (m := s + 64) (by omega) hs⟩ ?_
  rintro _ _ ⟨_, ⟨rfl, rfl⟩, rfl⟩
  refine zW.eqw (ws2 := (wB g q a2 (zG0 a2) bs2 wb2 pd2 gw2 ++ [(qo, .inl (zJ g, 1, .inr (.inl fo2)))]) ++ wM g p (k : Int) a2 la2 pe2 ga2 sz2) rfl ?_
  refine zW.top (y := nI k) rfl ?_
  refine z_iload C dL_law_153 1 rfl ?_
  refine z_icmp_eq C 160 dL_law_155 (by decide) (zeq_NN (by omega) (by omega)) (fun c_155 => ?_) (fun h9 => absurd rfl h9)
  refine z_iload C dL_law_160 1 rfl ?_
  refine z_if_ne C 177 dL_law_162 (by decide) (zeq_N0 (by omega)) (fun c_162 => ?_) (fun c_162 => ?_)
  · skip
    refine z_goto C 1187 dL_law_177 (by decide) ?_
    refine zW.pick (lv' := [(0, .ref b), (1, .ref (q 0)), (2, .ref (p 0)), (3, .ref qo), (4, .int (nI i))]) [2, 3, 4, 5, 6] rfl ?_
    refine zW.wid (k := c + 8) (n := s + 64) (by omega) (by omega) ?_
    exact kk a2 _ hi2 ⟨_, _, _, _, _, _, _, _, _, _, rfl, hs2, hz2⟩
  · skip
    refine z_aload_n C dL_law_165 5 rfl ?_
    refine z_iconst C (nI 0) dL_law_166 (by decide) ?_
    refine z_laldN C 20 rfl (by omega) (by decide) dL_law_167 (v := fo2 0) rfl ?_
    refine z_iload C dL_law_168 0 rfl ?_
    refine z_i2l C dL_law_170 (v := (v2).toInt64) rfl ?_
    refine z_lcmp C dL_law_171 (v := lg_cmp (fo2 0) ((v2).toInt64)) rfl ?_
    refine z_if_eq C 177 dL_law_172 (by decide) Iff.rfl (fun c_172 => ?_) (fun h9 => absurd (by rw [hv2 c_162, hv3 c_162]; exact lg_self _) h9)
    refine z_goto C 1187 dL_law_177 (by decide) ?_
    refine zW.pick (lv' := [(0, .ref b), (1, .ref (q 0)), (2, .ref (p 0)), (3, .ref qo), (4, .int (nI i))]) [2, 3, 4, 5, 6] rfl ?_
    refine zW.wid (k := c + 8) (n := s + 64) (by omega) (by omega) ?_
    exact kk a2 _ hi2 ⟨_, _, _, _, _, _, _, _, _, _, rfl, hs2, hz2⟩
set_option maxRecDepth 100000 in
set_option maxHeartbeats 4000000 in
theorem s_setReserve (l : Launch) (hl9 : l.stackTraces = false) (g : zG) (E : zEnv) (Q : State → Prop) (C : zC g E cL_law RL wsL_law 9 (some .boolean)) (F : zFx (zA E) (zs E) (zs E).heap) {b L : Nat} {xs : Nat → Int32} (S : zSc E b L xs) (q p : Nat → Nat) (qo : Nat) (a : zS) (hi : zInv a) (i : Nat) (hiL : i + 4 ≤ L) {c s : Nat} (hc : c + 8 ≤ 601024) (hs : s + 64 ≤ 7293034) (W0 : va_W) (hW : zLd g q p qo a W0) (kk : ∀ (a' : zS) (W' : va_W), zInv a' → zLd g q p qo a' W' → zW g l room_1 E Q 9 (c + 8) (s + 64) W' [(0, .ref b), (1, .ref (q 0)), (2, .ref (p 0)), (3, .ref qo), (4, .int (nI i))] [] 1187) : zW g l room_1 E Q 9 c s W0 [(0, .ref b), (1, .ref (q 0)), (2, .ref (p 0)), (3, .ref qo), (4, .int (nI i))] [] 180 := by
  obtain ⟨bs, wb, pd, gw, fo, th, la, pe, ga, sz, rfl, hs9, h0⟩ := hW
  have hLs := S.2.2.2
  refine zW.eqw (ws2 := (wB g q a (zG0 a) bs wb pd gw ++ [(qo, .inl (zJ g, 1, .inr (.inl fo)))]) ++ wM g p th a la pe ga sz) rfl ?_
  refine z_aload_n C dL_law_180 1 rfl ?_
  refine z_aload_n C dL_law_181 0 rfl ?_
  refine z_iload C dL_law_182 4 rfl ?_
  refine z_iconst C (nI 1) dL_law_184 (by decide) ?_
  refine z_iadd C dL_law_185 (v := nI (i + 1)) (nI_add i 1) ?_
  refine z_sld C S (j := i + 1) (by omega) dL_law_186 ?_
  refine z_aload_n C dL_law_187 0 rfl ?_
  refine z_iload C dL_law_188 4 rfl ?_
  refine z_iconst C (nI 2) dL_law_190 (by decide) ?_
  refine z_iadd C dL_law_191 (v := nI (i + 2)) (nI_add i 2) ?_
  refine z_sld C S (j := i + 2) (by omega) dL_law_192 ?_
  refine z_aload_n C dL_law_193 3 rfl ?_
  obtain ⟨k, v, a2, h, hk, hi2⟩ := sp_setReserve_ex hi (xs (i + 1)) (xs (i + 2))
  refine z_callSW (mc := 1) (ms := 6) C F (zMH.fr (w_setReserve l g q a bs wb pd gw qo fo hl9 hi hs9 (xs (i + 1)) (xs (i + 2)) h) [] (wM g p th a la pe ga sz)) (vx_cwSW 4 C.ts gL_law_L_setReserve rfl rfl rfl (by decide +kernel) ⟨Nat.le_of_ble_eq_true rfl, Nat.le_of_ble_eq_true rfl⟩) rfl rfl (Nat.le_of_ble_eq_true rfl) dL_law_194 ⟨Nat.le_trans (m := c + 8) (by omega) hc, Nat.le_trans (m := s + 64) (by omega) hs⟩ ?_
  rintro _ _ ⟨_, ⟨rfl, _, fo2, ⟨bs2, wb2, pd2, gw2, rfl, hs2⟩, hv2, rfl⟩, rfl⟩
  refine zW.eqw (ws2 := (wB g q a2 (zG0 a2) bs2 wb2 pd2 gw2 ++ [(qo, .inl (zJ g, 1, .inr (.inl fo2)))]) ++ wM g p th a la pe ga sz) rfl ?_
  refine z_istore C dL_law_197 (by decide) [(5, .int (nI k)), (0, .ref b), (1, .ref (q 0)), (2, .ref (p 0)), (3, .ref qo), (4, .int (nI i))] rfl ?_
  refine z_aload_n C dL_law_199 3 rfl ?_
  refine z_aload_n C dL_law_200 1 rfl ?_
  refine z_iload C dL_law_201 5 rfl ?_
  refine z_iconst C (nI 1) dL_law_203 (by decide) ?_
  refine z_iadd C dL_law_204 (v := nI (i + 1)) (nI_add i 1) ?_
  refine z_sld C S (j := i + 1) (by omega) dL_law_205 ?_
  refine z_aload_n C dL_law_206 1 rfl ?_
  refine z_iload C dL_law_207 5 rfl ?_
  refine z_iconst C (nI 2) dL_law_209 (by decide) ?_
  refine z_iadd C dL_law_210 (v := nI (i + 2)) (nI_add i 2) ?_
  refine z_sld C S (j := i + 2) (by omega) dL_law_211 ?_
  refine z_callV (mc := 0) (ms := 0) C (zM.fr (m_setReserve l g p th a la pe ga sz hi h0 (xs (i + 1)) (xs (i + 2)) h) (wB g q a2 (zG0 a2) bs2 wb2 pd2 gw2 ++ [(qo, .inl (zJ g, 1, .inr (.inl fo2)))]) []) (cwV 2 C.ts gL_law_X3_setReserve rfl rfl rfl (by decide +kernel) ⟨Nat.le_of_ble_eq_true rfl, Nat.le_of_ble_eq_true rfl⟩) zL_m rfl rfl rfl (Nat.le_of_ble_eq_true rfl) dL_law_212 ⟨Nat.le_trans (m := c + 8) (by omega) hc, Nat.le_trans (m := s + 64) (by omega) hs⟩ ?_
  rintro _ _ ⟨_, ⟨v2, rfl, hv3, la2, pe2, ga2, sz2, rfl, hz2⟩, rfl⟩
  refine zW.eqw (ws2 := (wB g q a2 (zG0 a2) bs2 wb2 pd2 gw2 ++ [(qo, .inl (zJ g, 1, .inr (.inl fo2)))]) ++ wM g p (k : Int) a2 la2 pe2 ga2 sz2) rfl ?_
  refine z_istore C dL_law_215 (by decide) [(6, .int v2), (5, .int (nI k)), (0, .ref b), (1, .ref (q 0)), (2, .ref (p 0)), (3, .ref qo), (4, .int (nI i))] rfl ?_
  refine z_aload_n C dL_law_217 4 rfl ?_
  refine z_callV (mc := 0) (ms := 0) C (zM.fr (c_X3_thrown l g p (k : Int) a2 la2 pe2 ga2 sz2) (wB g q a2 (zG0 a2) bs2 wb2 pd2 gw2 ++ [(qo, .inl (zJ g, 1, .inr (.inl fo2)))]) []) (cwV 0 C.ts gL_law_X3_thrown rfl rfl rfl (by decide +kernel) ⟨Nat.le_of_ble_eq_true rfl, Nat.le_of_ble_eq_true rfl⟩) zL_m rfl rfl rfl (Nat.le_of_ble_eq_true rfl) dL_law_218 ⟨Nat.le_trans (m := c + 8) (by omega) hc, Nat.le_trans (m := s + 64) (by omega) hs⟩ ?_
  rintro _ _ ⟨_, ⟨rfl, rfl⟩, rfl⟩
  refine zW.eqw (ws2 := (wB g q a2 (zG0 a2) bs2 wb2 pd2 gw2 ++ [(qo, .inl (zJ g, 1, .inr (.inl fo2)))]) ++ wM g p (k : Int) a2 la2 pe2 ga2 sz2) rfl ?_
  refine zW.top (y := nI k) rfl ?_
  refine z_iload C dL_law_221 1 rfl ?_
  refine z_icmp_eq C 228 dL_law_223 (by decide) (zeq_NN (by omega) (by omega)) (fun c_223 => ?_) (fun h9 => absurd rfl h9)
  refine z_iload C dL_law_228 1 rfl ?_
  refine z_if_ne C 245 dL_law_230 (by decide) (zeq_N0 (by omega)) (fun c_230 => ?_) (fun c_230 => ?_)
  · skip
    refine z_goto C 1187 dL_law_245 (by decide) ?_
    refine zW.pick (lv' := [(0, .ref b), (1, .ref (q 0)), (2, .ref (p 0)), (3, .ref qo), (4, .int (nI i))]) [2, 3, 4, 5, 6] rfl ?_
    refine zW.wid (k := c + 8) (n := s + 64) (by omega) (by omega) ?_
    exact kk a2 _ hi2 ⟨_, _, _, _, _, _, _, _, _, _, rfl, hs2, hz2⟩
  · skip
    refine z_aload_n C dL_law_233 5 rfl ?_
    refine z_iconst C (nI 0) dL_law_234 (by decide) ?_
    refine z_laldN C 20 rfl (by omega) (by decide) dL_law_235 (v := fo2 0) rfl ?_
    refine z_iload C dL_law_236 0 rfl ?_
    refine z_i2l C dL_law_238 (v := (v2).toInt64) rfl ?_
    refine z_lcmp C dL_law_239 (v := lg_cmp (fo2 0) ((v2).toInt64)) rfl ?_
    refine z_if_eq C 245 dL_law_240 (by decide) Iff.rfl (fun c_240 => ?_) (fun h9 => absurd (by rw [hv2 c_230, hv3 c_230]; exact lg_self _) h9)
    refine z_goto C 1187 dL_law_245 (by decide) ?_
    refine zW.pick (lv' := [(0, .ref b), (1, .ref (q 0)), (2, .ref (p 0)), (3, .ref qo), (4, .int (nI i))]) [2, 3, 4, 5, 6] rfl ?_
    refine zW.wid (k := c + 8) (n := s + 64) (by omega) (by omega) ?_
    exact kk a2 _ hi2 ⟨_, _, _, _, _, _, _, _, _, _, rfl, hs2, hz2⟩
set_option maxRecDepth 100000 in
set_option maxHeartbeats 4000000 in
theorem s_join (l : Launch) (hl9 : l.stackTraces = false) (g : zG) (E : zEnv) (Q : State → Prop) (C : zC g E cL_law RL wsL_law 9 (some .boolean)) (F : zFx (zA E) (zs E) (zs E).heap) {b L : Nat} {xs : Nat → Int32} (S : zSc E b L xs) (q p : Nat → Nat) (qo : Nat) (a : zS) (hi : zInv a) (i : Nat) (hiL : i + 4 ≤ L) {c s : Nat} (hc : c + 8 ≤ 601024) (hs : s + 64 ≤ 7293034) (W0 : va_W) (hW : zLd g q p qo a W0) (kk : ∀ (a' : zS) (W' : va_W), zInv a' → zLd g q p qo a' W' → zW g l room_1 E Q 9 (c + 8) (s + 64) W' [(0, .ref b), (1, .ref (q 0)), (2, .ref (p 0)), (3, .ref qo), (4, .int (nI i))] [] 1187) : zW g l room_1 E Q 9 c s W0 [(0, .ref b), (1, .ref (q 0)), (2, .ref (p 0)), (3, .ref qo), (4, .int (nI i))] [] 248 := by
  obtain ⟨bs, wb, pd, gw, fo, th, la, pe, ga, sz, rfl, hs9, h0⟩ := hW
  have hLs := S.2.2.2
  refine zW.eqw (ws2 := (wB g q a (zG0 a) bs wb pd gw ++ [(qo, .inl (zJ g, 1, .inr (.inl fo)))]) ++ wM g p th a la pe ga sz) rfl ?_
  refine z_aload_n C dL_law_248 1 rfl ?_
  refine z_aload_n C dL_law_249 3 rfl ?_
  obtain ⟨k, v, a2, h, hk, hi2⟩ := sp_join_ex hi 
  refine z_callSW (mc := 1) (ms := 6) C F (zMH.fr (w_join l g q a bs wb pd gw qo fo hl9 hi hs9  h) [] (wM g p th a la pe ga sz)) (vx_cwSW 2 C.ts gL_law_L_join rfl rfl rfl (by decide +kernel) ⟨Nat.le_of_ble_eq_true rfl, Nat.le_of_ble_eq_true rfl⟩) rfl rfl (Nat.le_of_ble_eq_true rfl) dL_law_250 ⟨Nat.le_trans (m := c + 8) (by omega) hc, Nat.le_trans (m := s + 64) (by omega) hs⟩ ?_
  rintro _ _ ⟨_, ⟨rfl, _, fo2, ⟨bs2, wb2, pd2, gw2, rfl, hs2⟩, hv2, rfl⟩, rfl⟩
  refine zW.eqw (ws2 := (wB g q a2 (zG0 a2) bs2 wb2 pd2 gw2 ++ [(qo, .inl (zJ g, 1, .inr (.inl fo2)))]) ++ wM g p th a la pe ga sz) rfl ?_
  refine z_istore C dL_law_253 (by decide) [(5, .int (nI k)), (0, .ref b), (1, .ref (q 0)), (2, .ref (p 0)), (3, .ref qo), (4, .int (nI i))] rfl ?_
  refine z_aload_n C dL_law_255 3 rfl ?_
  refine z_callV (mc := 0) (ms := 0) C (zM.fr (m_join l g p th a la pe ga sz hi h0  h) (wB g q a2 (zG0 a2) bs2 wb2 pd2 gw2 ++ [(qo, .inl (zJ g, 1, .inr (.inl fo2)))]) []) (cwV 0 C.ts gL_law_X3_join rfl rfl rfl (by decide +kernel) ⟨Nat.le_of_ble_eq_true rfl, Nat.le_of_ble_eq_true rfl⟩) zL_m rfl rfl rfl (Nat.le_of_ble_eq_true rfl) dL_law_256 ⟨Nat.le_trans (m := c + 8) (by omega) hc, Nat.le_trans (m := s + 64) (by omega) hs⟩ ?_
  rintro _ _ ⟨_, ⟨v2, rfl, hv3, la2, pe2, ga2, sz2, rfl, hz2⟩, rfl⟩
  refine zW.eqw (ws2 := (wB g q a2 (zG0 a2) bs2 wb2 pd2 gw2 ++ [(qo, .inl (zJ g, 1, .inr (.inl fo2)))]) ++ wM g p (k : Int) a2 la2 pe2 ga2 sz2) rfl ?_
  refine z_istore C dL_law_259 (by decide) [(6, .int v2), (5, .int (nI k)), (0, .ref b), (1, .ref (q 0)), (2, .ref (p 0)), (3, .ref qo), (4, .int (nI i))] rfl ?_
  refine z_aload_n C dL_law_261 4 rfl ?_
  refine z_callV (mc := 0) (ms := 0) C (zM.fr (c_X3_thrown l g p (k : Int) a2 la2 pe2 ga2 sz2) (wB g q a2 (zG0 a2) bs2 wb2 pd2 gw2 ++ [(qo, .inl (zJ g, 1, .inr (.inl fo2)))]) []) (cwV 0 C.ts gL_law_X3_thrown rfl rfl rfl (by decide +kernel) ⟨Nat.le_of_ble_eq_true rfl, Nat.le_of_ble_eq_true rfl⟩) zL_m rfl rfl rfl (Nat.le_of_ble_eq_true rfl) dL_law_262 ⟨Nat.le_trans (m := c + 8) (by omega) hc, Nat.le_trans (m := s + 64) (by omega) hs⟩ ?_
  rintro _ _ ⟨_, ⟨rfl, rfl⟩, rfl⟩
  refine zW.eqw (ws2 := (wB g q a2 (zG0 a2) bs2 wb2 pd2 gw2 ++ [(qo, .inl (zJ g, 1, .inr (.inl fo2)))]) ++ wM g p (k : Int) a2 la2 pe2 ga2 sz2) rfl ?_
  refine zW.top (y := nI k) rfl ?_
  refine z_iload C dL_law_265 1 rfl ?_
  refine z_icmp_eq C 272 dL_law_267 (by decide) (zeq_NN (by omega) (by omega)) (fun c_267 => ?_) (fun h9 => absurd rfl h9)
  refine z_iload C dL_law_272 1 rfl ?_
  refine z_if_ne C 289 dL_law_274 (by decide) (zeq_N0 (by omega)) (fun c_274 => ?_) (fun c_274 => ?_)
  · skip
    refine z_goto C 1187 dL_law_289 (by decide) ?_
    refine zW.pick (lv' := [(0, .ref b), (1, .ref (q 0)), (2, .ref (p 0)), (3, .ref qo), (4, .int (nI i))]) [2, 3, 4, 5, 6] rfl ?_
    refine zW.wid (k := c + 8) (n := s + 64) (by omega) (by omega) ?_
    exact kk a2 _ hi2 ⟨_, _, _, _, _, _, _, _, _, _, rfl, hs2, hz2⟩
  · skip
    refine z_aload_n C dL_law_277 5 rfl ?_
    refine z_iconst C (nI 0) dL_law_278 (by decide) ?_
    refine z_laldN C 20 rfl (by omega) (by decide) dL_law_279 (v := fo2 0) rfl ?_
    refine z_iload C dL_law_280 0 rfl ?_
    refine z_i2l C dL_law_282 (v := (v2).toInt64) rfl ?_
    refine z_lcmp C dL_law_283 (v := lg_cmp (fo2 0) ((v2).toInt64)) rfl ?_
    refine z_if_eq C 289 dL_law_284 (by decide) Iff.rfl (fun c_284 => ?_) (fun h9 => absurd (by rw [hv2 c_274, hv3 c_274]; exact lg_self _) h9)
    refine z_goto C 1187 dL_law_289 (by decide) ?_
    refine zW.pick (lv' := [(0, .ref b), (1, .ref (q 0)), (2, .ref (p 0)), (3, .ref qo), (4, .int (nI i))]) [2, 3, 4, 5, 6] rfl ?_
    refine zW.wid (k := c + 8) (n := s + 64) (by omega) (by omega) ?_
    exact kk a2 _ hi2 ⟨_, _, _, _, _, _, _, _, _, _, rfl, hs2, hz2⟩
set_option maxRecDepth 100000 in
set_option maxHeartbeats 4000000 in
theorem s_setIn (l : Launch) (hl9 : l.stackTraces = false) (g : zG) (E : zEnv) (Q : State → Prop) (C : zC g E cL_law RL wsL_law 9 (some .boolean)) (F : zFx (zA E) (zs E) (zs E).heap) {b L : Nat} {xs : Nat → Int32} (S : zSc E b L xs) (q p : Nat → Nat) (qo : Nat) (a : zS) (hi : zInv a) (i : Nat) (hiL : i + 4 ≤ L) {c s : Nat} (hc : c + 8 ≤ 601024) (hs : s + 64 ≤ 7293034) (W0 : va_W) (hW : zLd g q p qo a W0) (kk : ∀ (a' : zS) (W' : va_W), zInv a' → zLd g q p qo a' W' → zW g l room_1 E Q 9 (c + 8) (s + 64) W' [(0, .ref b), (1, .ref (q 0)), (2, .ref (p 0)), (3, .ref qo), (4, .int (nI i))] [] 1187) : zW g l room_1 E Q 9 c s W0 [(0, .ref b), (1, .ref (q 0)), (2, .ref (p 0)), (3, .ref qo), (4, .int (nI i))] [] 292 := by
  obtain ⟨bs, wb, pd, gw, fo, th, la, pe, ga, sz, rfl, hs9, h0⟩ := hW
  have hLs := S.2.2.2
  refine zW.eqw (ws2 := (wB g q a (zG0 a) bs wb pd gw ++ [(qo, .inl (zJ g, 1, .inr (.inl fo)))]) ++ wM g p th a la pe ga sz) rfl ?_
  refine z_aload_n C dL_law_292 1 rfl ?_
  refine z_aload_n C dL_law_293 0 rfl ?_
  refine z_iload C dL_law_294 4 rfl ?_
  refine z_iconst C (nI 1) dL_law_296 (by decide) ?_
  refine z_iadd C dL_law_297 (v := nI (i + 1)) (nI_add i 1) ?_
  refine z_sld C S (j := i + 1) (by omega) dL_law_298 ?_
  refine z_aload_n C dL_law_299 0 rfl ?_
  refine z_iload C dL_law_300 4 rfl ?_
  refine z_iconst C (nI 2) dL_law_302 (by decide) ?_
  refine z_iadd C dL_law_303 (v := nI (i + 2)) (nI_add i 2) ?_
  refine z_sld C S (j := i + 2) (by omega) dL_law_304 ?_
  refine z_if_eq C 312 dL_law_305 (by decide) Iff.rfl (fun c_305 => ?_) (fun c_305 => ?_)
  · skip
    refine z_iconst C (nI 0) dL_law_312 (by decide) ?_
    refine z_aload_n C dL_law_313 3 rfl ?_
    obtain ⟨k, v, a2, h, hk, hi2, hb⟩ := sp_setIn_ex hi (xs (i + 1)) false
    refine z_callSW (mc := 1) (ms := 6) C F (zMH.fr (w_setIn l g q a bs wb pd gw qo fo hl9 hi hs9 (xs (i + 1)) (bI false) h) [] (wM g p th a la pe ga sz)) (vx_cwSW 4 C.ts gL_law_L_setIn rfl rfl rfl (by decide +kernel) ⟨Nat.le_of_ble_eq_true rfl, Nat.le_of_ble_eq_true rfl⟩) rfl rfl (Nat.le_of_ble_eq_true rfl) dL_law_314 ⟨Nat.le_trans (m := c + 8) (by omega) hc, Nat.le_trans (m := s + 64) (by omega) hs⟩ ?_
    rintro _ _ ⟨_, ⟨rfl, _, fo2, ⟨bs2, wb2, pd2, gw2, rfl, hs2⟩, hv2, rfl⟩, rfl⟩
    refine zW.eqw (ws2 := (wB g q a2 (zG0 a2) bs2 wb2 pd2 gw2 ++ [(qo, .inl (zJ g, 1, .inr (.inl fo2)))]) ++ wM g p th a la pe ga sz) rfl ?_
    refine z_istore C dL_law_317 (by decide) [(5, .int (nI k)), (0, .ref b), (1, .ref (q 0)), (2, .ref (p 0)), (3, .ref qo), (4, .int (nI i))] rfl ?_
    refine z_aload_n C dL_law_319 3 rfl ?_
    refine z_aload_n C dL_law_320 1 rfl ?_
    refine z_iload C dL_law_321 5 rfl ?_
    refine z_iconst C (nI 1) dL_law_323 (by decide) ?_
    refine z_iadd C dL_law_324 (v := nI (i + 1)) (nI_add i 1) ?_
    refine z_sld C S (j := i + 1) (by omega) dL_law_325 ?_
    refine z_aload_n C dL_law_326 1 rfl ?_
    refine z_iload C dL_law_327 5 rfl ?_
    refine z_iconst C (nI 2) dL_law_329 (by decide) ?_
    refine z_iadd C dL_law_330 (v := nI (i + 2)) (nI_add i 2) ?_
    refine z_sld C S (j := i + 2) (by omega) dL_law_331 ?_
    refine z_if_eq C 339 dL_law_332 (by decide) Iff.rfl (fun c_332 => ?_) (fun h9 => absurd c_305 h9)
    refine z_iconst C (nI 0) dL_law_339 (by decide) ?_
    refine z_callV (mc := 0) (ms := 0) C (zM.fr (m_setIn l g p th a la pe ga sz hi h0 (xs (i + 1)) (bI false) h) (wB g q a2 (zG0 a2) bs2 wb2 pd2 gw2 ++ [(qo, .inl (zJ g, 1, .inr (.inl fo2)))]) []) (cwV 2 C.ts gL_law_X3_setIn rfl rfl rfl (by decide +kernel) ⟨Nat.le_of_ble_eq_true rfl, Nat.le_of_ble_eq_true rfl⟩) zL_m rfl rfl rfl (Nat.le_of_ble_eq_true rfl) dL_law_340 ⟨Nat.le_trans (m := c + 8) (by omega) hc, Nat.le_trans (m := s + 64) (by omega) hs⟩ ?_
    rintro _ _ ⟨_, ⟨v2, rfl, hv3, la2, pe2, ga2, sz2, rfl, hz2⟩, rfl⟩
    refine zW.eqw (ws2 := (wB g q a2 (zG0 a2) bs2 wb2 pd2 gw2 ++ [(qo, .inl (zJ g, 1, .inr (.inl fo2)))]) ++ wM g p (k : Int) a2 la2 pe2 ga2 sz2) rfl ?_
    refine z_istore C dL_law_343 (by decide) [(6, .int v2), (5, .int (nI k)), (0, .ref b), (1, .ref (q 0)), (2, .ref (p 0)), (3, .ref qo), (4, .int (nI i))] rfl ?_
    refine z_aload_n C dL_law_345 4 rfl ?_
    refine z_callV (mc := 0) (ms := 0) C (zM.fr (c_X3_thrown l g p (k : Int) a2 la2 pe2 ga2 sz2) (wB g q a2 (zG0 a2) bs2 wb2 pd2 gw2 ++ [(qo, .inl (zJ g, 1, .inr (.inl fo2)))]) []) (cwV 0 C.ts gL_law_X3_thrown rfl rfl rfl (by decide +kernel) ⟨Nat.le_of_ble_eq_true rfl, Nat.le_of_ble_eq_true rfl⟩) zL_m rfl rfl rfl (Nat.le_of_ble_eq_true rfl) dL_law_346 ⟨Nat.le_trans (m := c + 8) (by omega) hc, Nat.le_trans (m := s + 64) (by omega) hs⟩ ?_
    rintro _ _ ⟨_, ⟨rfl, rfl⟩, rfl⟩
    refine zW.eqw (ws2 := (wB g q a2 (zG0 a2) bs2 wb2 pd2 gw2 ++ [(qo, .inl (zJ g, 1, .inr (.inl fo2)))]) ++ wM g p (k : Int) a2 la2 pe2 ga2 sz2) rfl ?_
    refine zW.top (y := nI k) rfl ?_
    refine z_iload C dL_law_349 1 rfl ?_
    refine z_icmp_eq C 356 dL_law_351 (by decide) (zeq_NN (by omega) (by omega)) (fun c_351 => ?_) (fun h9 => absurd rfl h9)
    refine z_iload C dL_law_356 1 rfl ?_
    refine z_if_ne C 380 dL_law_358 (by decide) (zeq_N0 (by omega)) (fun c_358 => ?_) (fun c_358 => ?_)
    · skip
      refine z_goto C 1187 dL_law_380 (by decide) ?_
      refine zW.pick (lv' := [(0, .ref b), (1, .ref (q 0)), (2, .ref (p 0)), (3, .ref qo), (4, .int (nI i))]) [2, 3, 4, 5, 6] rfl ?_
      refine zW.wid (k := c + 8) (n := s + 64) (by omega) (by omega) ?_
      exact kk a2 _ hi2 ⟨_, _, _, _, _, _, _, _, _, _, rfl, hs2, hz2⟩
    · skip
      refine z_aload_n C dL_law_361 5 rfl ?_
      refine z_iconst C (nI 0) dL_law_362 (by decide) ?_
      refine z_laldN C 20 rfl (by omega) (by decide) dL_law_363 (v := fo2 0) rfl ?_
      refine z_iload C dL_law_364 0 rfl ?_
      refine z_if_eq C 373 dL_law_366 (by decide) Iff.rfl (fun c_366 => ?_) (fun c_366 => ?_)
      · skip
        refine z_lconst C (0) dL_law_373 (by decide) ?_
        refine z_lcmp C dL_law_374 (v := lg_cmp (fo2 0) 0) rfl ?_
        refine z_if_eq C 380 dL_law_375 (by decide) Iff.rfl (fun c_375 => ?_) (fun h9 => absurd (by rw [hv2 c_358, ← hv3 c_358, c_366]; decide) h9)
        refine z_goto C 1187 dL_law_380 (by decide) ?_
        refine zW.pick (lv' := [(0, .ref b), (1, .ref (q 0)), (2, .ref (p 0)), (3, .ref qo), (4, .int (nI i))]) [2, 3, 4, 5, 6] rfl ?_
        refine zW.wid (k := c + 8) (n := s + 64) (by omega) (by omega) ?_
        exact kk a2 _ hi2 ⟨_, _, _, _, _, _, _, _, _, _, rfl, hs2, hz2⟩
      · skip
        refine z_lconst C (1) dL_law_369 (by decide) ?_
        refine z_goto C 374 dL_law_370 (by decide) ?_
        refine z_lcmp C dL_law_374 (v := lg_cmp (fo2 0) 1) rfl ?_
        refine z_if_eq C 380 dL_law_375 (by decide) Iff.rfl (fun c_375 => ?_) (fun h9 => absurd (by rw [hv2 c_358]; rcases hb with e | e; exact absurd ((hv3 c_358).trans e) c_366; rw [e]; decide) h9)
        refine z_goto C 1187 dL_law_380 (by decide) ?_
        refine zW.pick (lv' := [(0, .ref b), (1, .ref (q 0)), (2, .ref (p 0)), (3, .ref qo), (4, .int (nI i))]) [2, 3, 4, 5, 6] rfl ?_
        refine zW.wid (k := c + 8) (n := s + 64) (by omega) (by omega) ?_
        exact kk a2 _ hi2 ⟨_, _, _, _, _, _, _, _, _, _, rfl, hs2, hz2⟩
  · skip
    refine z_iconst C (nI 1) dL_law_308 (by decide) ?_
    refine z_goto C 313 dL_law_309 (by decide) ?_
    refine z_aload_n C dL_law_313 3 rfl ?_
    obtain ⟨k, v, a2, h, hk, hi2, hb⟩ := sp_setIn_ex hi (xs (i + 1)) true
    refine z_callSW (mc := 1) (ms := 6) C F (zMH.fr (w_setIn l g q a bs wb pd gw qo fo hl9 hi hs9 (xs (i + 1)) (bI true) h) [] (wM g p th a la pe ga sz)) (vx_cwSW 4 C.ts gL_law_L_setIn rfl rfl rfl (by decide +kernel) ⟨Nat.le_of_ble_eq_true rfl, Nat.le_of_ble_eq_true rfl⟩) rfl rfl (Nat.le_of_ble_eq_true rfl) dL_law_314 ⟨Nat.le_trans (m := c + 8) (by omega) hc, Nat.le_trans (m := s + 64) (by omega) hs⟩ ?_
    rintro _ _ ⟨_, ⟨rfl, _, fo2, ⟨bs2, wb2, pd2, gw2, rfl, hs2⟩, hv2, rfl⟩, rfl⟩
    refine zW.eqw (ws2 := (wB g q a2 (zG0 a2) bs2 wb2 pd2 gw2 ++ [(qo, .inl (zJ g, 1, .inr (.inl fo2)))]) ++ wM g p th a la pe ga sz) rfl ?_
    refine z_istore C dL_law_317 (by decide) [(5, .int (nI k)), (0, .ref b), (1, .ref (q 0)), (2, .ref (p 0)), (3, .ref qo), (4, .int (nI i))] rfl ?_
    refine z_aload_n C dL_law_319 3 rfl ?_
    refine z_aload_n C dL_law_320 1 rfl ?_
    refine z_iload C dL_law_321 5 rfl ?_
    refine z_iconst C (nI 1) dL_law_323 (by decide) ?_
    refine z_iadd C dL_law_324 (v := nI (i + 1)) (nI_add i 1) ?_
    refine z_sld C S (j := i + 1) (by omega) dL_law_325 ?_
    refine z_aload_n C dL_law_326 1 rfl ?_
    refine z_iload C dL_law_327 5 rfl ?_
    refine z_iconst C (nI 2) dL_law_329 (by decide) ?_
    refine z_iadd C dL_law_330 (v := nI (i + 2)) (nI_add i 2) ?_
    refine z_sld C S (j := i + 2) (by omega) dL_law_331 ?_
    refine z_if_eq C 339 dL_law_332 (by decide) Iff.rfl (fun h9 => absurd h9 c_305) (fun c_332 => ?_)
    refine z_iconst C (nI 1) dL_law_335 (by decide) ?_
    refine z_goto C 340 dL_law_336 (by decide) ?_
    refine z_callV (mc := 0) (ms := 0) C (zM.fr (m_setIn l g p th a la pe ga sz hi h0 (xs (i + 1)) (bI true) h) (wB g q a2 (zG0 a2) bs2 wb2 pd2 gw2 ++ [(qo, .inl (zJ g, 1, .inr (.inl fo2)))]) []) (cwV 2 C.ts gL_law_X3_setIn rfl rfl rfl (by decide +kernel) ⟨Nat.le_of_ble_eq_true rfl, Nat.le_of_ble_eq_true rfl⟩) zL_m rfl rfl rfl (Nat.le_of_ble_eq_true rfl) dL_law_340 ⟨Nat.le_trans (m := c + 8) (by omega) hc, Nat.le_trans (m := s + 64) (by omega) hs⟩ ?_
    rintro _ _ ⟨_, ⟨v2, rfl, hv3, la2, pe2, ga2, sz2, rfl, hz2⟩, rfl⟩
    refine zW.eqw (ws2 := (wB g q a2 (zG0 a2) bs2 wb2 pd2 gw2 ++ [(qo, .inl (zJ g, 1, .inr (.inl fo2)))]) ++ wM g p (k : Int) a2 la2 pe2 ga2 sz2) rfl ?_
    refine z_istore C dL_law_343 (by decide) [(6, .int v2), (5, .int (nI k)), (0, .ref b), (1, .ref (q 0)), (2, .ref (p 0)), (3, .ref qo), (4, .int (nI i))] rfl ?_
    refine z_aload_n C dL_law_345 4 rfl ?_
    refine z_callV (mc := 0) (ms := 0) C (zM.fr (c_X3_thrown l g p (k : Int) a2 la2 pe2 ga2 sz2) (wB g q a2 (zG0 a2) bs2 wb2 pd2 gw2 ++ [(qo, .inl (zJ g, 1, .inr (.inl fo2)))]) []) (cwV 0 C.ts gL_law_X3_thrown rfl rfl rfl (by decide +kernel) ⟨Nat.le_of_ble_eq_true rfl, Nat.le_of_ble_eq_true rfl⟩) zL_m rfl rfl rfl (Nat.le_of_ble_eq_true rfl) dL_law_346 ⟨Nat.le_trans (m := c + 8) (by omega) hc, Nat.le_trans (m := s + 64) (by omega) hs⟩ ?_
    rintro _ _ ⟨_, ⟨rfl, rfl⟩, rfl⟩
    refine zW.eqw (ws2 := (wB g q a2 (zG0 a2) bs2 wb2 pd2 gw2 ++ [(qo, .inl (zJ g, 1, .inr (.inl fo2)))]) ++ wM g p (k : Int) a2 la2 pe2 ga2 sz2) rfl ?_
    refine zW.top (y := nI k) rfl ?_
    refine z_iload C dL_law_349 1 rfl ?_
    refine z_icmp_eq C 356 dL_law_351 (by decide) (zeq_NN (by omega) (by omega)) (fun c_351 => ?_) (fun h9 => absurd rfl h9)
    refine z_iload C dL_law_356 1 rfl ?_
    refine z_if_ne C 380 dL_law_358 (by decide) (zeq_N0 (by omega)) (fun c_358 => ?_) (fun c_358 => ?_)
    · skip
      refine z_goto C 1187 dL_law_380 (by decide) ?_
      refine zW.pick (lv' := [(0, .ref b), (1, .ref (q 0)), (2, .ref (p 0)), (3, .ref qo), (4, .int (nI i))]) [2, 3, 4, 5, 6] rfl ?_
      refine zW.wid (k := c + 8) (n := s + 64) (by omega) (by omega) ?_
      exact kk a2 _ hi2 ⟨_, _, _, _, _, _, _, _, _, _, rfl, hs2, hz2⟩
    · skip
      refine z_aload_n C dL_law_361 5 rfl ?_
      refine z_iconst C (nI 0) dL_law_362 (by decide) ?_
      refine z_laldN C 20 rfl (by omega) (by decide) dL_law_363 (v := fo2 0) rfl ?_
      refine z_iload C dL_law_364 0 rfl ?_
      refine z_if_eq C 373 dL_law_366 (by decide) Iff.rfl (fun c_366 => ?_) (fun c_366 => ?_)
      · skip
        refine z_lconst C (0) dL_law_373 (by decide) ?_
        refine z_lcmp C dL_law_374 (v := lg_cmp (fo2 0) 0) rfl ?_
        refine z_if_eq C 380 dL_law_375 (by decide) Iff.rfl (fun c_375 => ?_) (fun h9 => absurd (by rw [hv2 c_358, ← hv3 c_358, c_366]; decide) h9)
        refine z_goto C 1187 dL_law_380 (by decide) ?_
        refine zW.pick (lv' := [(0, .ref b), (1, .ref (q 0)), (2, .ref (p 0)), (3, .ref qo), (4, .int (nI i))]) [2, 3, 4, 5, 6] rfl ?_
        refine zW.wid (k := c + 8) (n := s + 64) (by omega) (by omega) ?_
        exact kk a2 _ hi2 ⟨_, _, _, _, _, _, _, _, _, _, rfl, hs2, hz2⟩
      · skip
        refine z_lconst C (1) dL_law_369 (by decide) ?_
        refine z_goto C 374 dL_law_370 (by decide) ?_
        refine z_lcmp C dL_law_374 (v := lg_cmp (fo2 0) 1) rfl ?_
        refine z_if_eq C 380 dL_law_375 (by decide) Iff.rfl (fun c_375 => ?_) (fun h9 => absurd (by rw [hv2 c_358]; rcases hb with e | e; exact absurd ((hv3 c_358).trans e) c_366; rw [e]; decide) h9)
        refine z_goto C 1187 dL_law_380 (by decide) ?_
        refine zW.pick (lv' := [(0, .ref b), (1, .ref (q 0)), (2, .ref (p 0)), (3, .ref qo), (4, .int (nI i))]) [2, 3, 4, 5, 6] rfl ?_
        refine zW.wid (k := c + 8) (n := s + 64) (by omega) (by omega) ?_
        exact kk a2 _ hi2 ⟨_, _, _, _, _, _, _, _, _, _, rfl, hs2, hz2⟩
set_option maxRecDepth 100000 in
set_option maxHeartbeats 4000000 in
theorem s_bid (l : Launch) (hl9 : l.stackTraces = false) (g : zG) (E : zEnv) (Q : State → Prop) (C : zC g E cL_law RL wsL_law 9 (some .boolean)) (F : zFx (zA E) (zs E) (zs E).heap) {b L : Nat} {xs : Nat → Int32} (S : zSc E b L xs) (q p : Nat → Nat) (qo : Nat) (a : zS) (hi : zInv a) (i : Nat) (hiL : i + 4 ≤ L) {c s : Nat} (hc : c + 8 ≤ 601024) (hs : s + 64 ≤ 7293034) (W0 : va_W) (hW : zLd g q p qo a W0) (kk : ∀ (a' : zS) (W' : va_W), zInv a' → zLd g q p qo a' W' → zW g l room_1 E Q 9 (c + 8) (s + 64) W' [(0, .ref b), (1, .ref (q 0)), (2, .ref (p 0)), (3, .ref qo), (4, .int (nI i))] [] 1187) : zW g l room_1 E Q 9 c s W0 [(0, .ref b), (1, .ref (q 0)), (2, .ref (p 0)), (3, .ref qo), (4, .int (nI i))] [] 383 := by
  obtain ⟨bs, wb, pd, gw, fo, th, la, pe, ga, sz, rfl, hs9, h0⟩ := hW
  have hLs := S.2.2.2
  refine zW.eqw (ws2 := (wB g q a (zG0 a) bs wb pd gw ++ [(qo, .inl (zJ g, 1, .inr (.inl fo)))]) ++ wM g p th a la pe ga sz) rfl ?_
  refine z_aload_n C dL_law_383 1 rfl ?_
  refine z_aload_n C dL_law_384 0 rfl ?_
  refine z_iload C dL_law_385 4 rfl ?_
  refine z_iconst C (nI 1) dL_law_387 (by decide) ?_
  refine z_iadd C dL_law_388 (v := nI (i + 1)) (nI_add i 1) ?_
  refine z_sld C S (j := i + 1) (by omega) dL_law_389 ?_
  refine z_aload_n C dL_law_390 0 rfl ?_
  refine z_iload C dL_law_391 4 rfl ?_
  refine z_iconst C (nI 2) dL_law_393 (by decide) ?_
  refine z_iadd C dL_law_394 (v := nI (i + 2)) (nI_add i 2) ?_
  refine z_sld C S (j := i + 2) (by omega) dL_law_395 ?_
  refine z_aload_n C dL_law_396 0 rfl ?_
  refine z_iload C dL_law_397 4 rfl ?_
  refine z_iconst C (nI 3) dL_law_399 (by decide) ?_
  refine z_iadd C dL_law_400 (v := nI (i + 3)) (nI_add i 3) ?_
  refine z_sld C S (j := i + 3) (by omega) dL_law_401 ?_
  refine z_aload_n C dL_law_402 3 rfl ?_
  obtain ⟨k, v, a2, h, hk, hi2⟩ := sp_bid_ex hi (xs (i + 1)) (xs (i + 2)) (xs (i + 3))
  refine z_callSW (mc := 1) (ms := 6) C F (zMH.fr (w_bid l g q a bs wb pd gw qo fo hl9 hi hs9 (xs (i + 1)) (xs (i + 2)) (xs (i + 3)) h) [] (wM g p th a la pe ga sz)) (vx_cwSW 5 C.ts gL_law_L_bid rfl rfl rfl (by decide +kernel) ⟨Nat.le_of_ble_eq_true rfl, Nat.le_of_ble_eq_true rfl⟩) rfl rfl (Nat.le_of_ble_eq_true rfl) dL_law_403 ⟨Nat.le_trans (m := c + 8) (by omega) hc, Nat.le_trans (m := s + 64) (by omega) hs⟩ ?_
  rintro _ _ ⟨_, ⟨rfl, _, fo2, ⟨bs2, wb2, pd2, gw2, rfl, hs2⟩, hv2, rfl⟩, rfl⟩
  refine zW.eqw (ws2 := (wB g q a2 (zG0 a2) bs2 wb2 pd2 gw2 ++ [(qo, .inl (zJ g, 1, .inr (.inl fo2)))]) ++ wM g p th a la pe ga sz) rfl ?_
  refine z_istore C dL_law_406 (by decide) [(5, .int (nI k)), (0, .ref b), (1, .ref (q 0)), (2, .ref (p 0)), (3, .ref qo), (4, .int (nI i))] rfl ?_
  refine z_aload_n C dL_law_408 3 rfl ?_
  refine z_aload_n C dL_law_409 1 rfl ?_
  refine z_iload C dL_law_410 5 rfl ?_
  refine z_iconst C (nI 1) dL_law_412 (by decide) ?_
  refine z_iadd C dL_law_413 (v := nI (i + 1)) (nI_add i 1) ?_
  refine z_sld C S (j := i + 1) (by omega) dL_law_414 ?_
  refine z_aload_n C dL_law_415 1 rfl ?_
  refine z_iload C dL_law_416 5 rfl ?_
  refine z_iconst C (nI 2) dL_law_418 (by decide) ?_
  refine z_iadd C dL_law_419 (v := nI (i + 2)) (nI_add i 2) ?_
  refine z_sld C S (j := i + 2) (by omega) dL_law_420 ?_
  refine z_aload_n C dL_law_421 1 rfl ?_
  refine z_iload C dL_law_422 5 rfl ?_
  refine z_iconst C (nI 3) dL_law_424 (by decide) ?_
  refine z_iadd C dL_law_425 (v := nI (i + 3)) (nI_add i 3) ?_
  refine z_sld C S (j := i + 3) (by omega) dL_law_426 ?_
  refine z_callV (mc := 1) (ms := 5) C (zM.fr (m_bid l g p th a la pe ga sz hi h0 (xs (i + 1)) (xs (i + 2)) (xs (i + 3)) h) (wB g q a2 (zG0 a2) bs2 wb2 pd2 gw2 ++ [(qo, .inl (zJ g, 1, .inr (.inl fo2)))]) []) (cwV 3 C.ts gL_law_X3_bid rfl rfl rfl (by decide +kernel) ⟨Nat.le_of_ble_eq_true rfl, Nat.le_of_ble_eq_true rfl⟩) zL_m rfl rfl rfl (Nat.le_of_ble_eq_true rfl) dL_law_427 ⟨Nat.le_trans (m := c + 8) (by omega) hc, Nat.le_trans (m := s + 64) (by omega) hs⟩ ?_
  rintro _ _ ⟨_, ⟨v2, rfl, hv3, la2, pe2, ga2, sz2, rfl, hz2⟩, rfl⟩
  refine zW.eqw (ws2 := (wB g q a2 (zG0 a2) bs2 wb2 pd2 gw2 ++ [(qo, .inl (zJ g, 1, .inr (.inl fo2)))]) ++ wM g p (k : Int) a2 la2 pe2 ga2 sz2) rfl ?_
  refine z_istore C dL_law_430 (by decide) [(6, .int v2), (5, .int (nI k)), (0, .ref b), (1, .ref (q 0)), (2, .ref (p 0)), (3, .ref qo), (4, .int (nI i))] rfl ?_
  refine z_aload_n C dL_law_432 4 rfl ?_
  refine z_callV (mc := 0) (ms := 0) C (zM.fr (c_X3_thrown l g p (k : Int) a2 la2 pe2 ga2 sz2) (wB g q a2 (zG0 a2) bs2 wb2 pd2 gw2 ++ [(qo, .inl (zJ g, 1, .inr (.inl fo2)))]) []) (cwV 0 C.ts gL_law_X3_thrown rfl rfl rfl (by decide +kernel) ⟨Nat.le_of_ble_eq_true rfl, Nat.le_of_ble_eq_true rfl⟩) zL_m rfl rfl rfl (Nat.le_of_ble_eq_true rfl) dL_law_433 ⟨Nat.le_trans (m := c + 8) (by omega) hc, Nat.le_trans (m := s + 64) (by omega) hs⟩ ?_
  rintro _ _ ⟨_, ⟨rfl, rfl⟩, rfl⟩
  refine zW.eqw (ws2 := (wB g q a2 (zG0 a2) bs2 wb2 pd2 gw2 ++ [(qo, .inl (zJ g, 1, .inr (.inl fo2)))]) ++ wM g p (k : Int) a2 la2 pe2 ga2 sz2) rfl ?_
  refine zW.top (y := nI k) rfl ?_
  refine z_iload C dL_law_436 1 rfl ?_
  refine z_icmp_eq C 443 dL_law_438 (by decide) (zeq_NN (by omega) (by omega)) (fun c_438 => ?_) (fun h9 => absurd rfl h9)
  refine z_iload C dL_law_443 1 rfl ?_
  refine z_if_ne C 460 dL_law_445 (by decide) (zeq_N0 (by omega)) (fun c_445 => ?_) (fun c_445 => ?_)
  · skip
    refine z_goto C 1187 dL_law_460 (by decide) ?_
    refine zW.pick (lv' := [(0, .ref b), (1, .ref (q 0)), (2, .ref (p 0)), (3, .ref qo), (4, .int (nI i))]) [2, 3, 4, 5, 6] rfl ?_
    refine zW.wid (k := c + 8) (n := s + 64) (by omega) (by omega) ?_
    exact kk a2 _ hi2 ⟨_, _, _, _, _, _, _, _, _, _, rfl, hs2, hz2⟩
  · skip
    refine z_aload_n C dL_law_448 5 rfl ?_
    refine z_iconst C (nI 0) dL_law_449 (by decide) ?_
    refine z_laldN C 20 rfl (by omega) (by decide) dL_law_450 (v := fo2 0) rfl ?_
    refine z_iload C dL_law_451 0 rfl ?_
    refine z_i2l C dL_law_453 (v := (v2).toInt64) rfl ?_
    refine z_lcmp C dL_law_454 (v := lg_cmp (fo2 0) ((v2).toInt64)) rfl ?_
    refine z_if_eq C 460 dL_law_455 (by decide) Iff.rfl (fun c_455 => ?_) (fun h9 => absurd (by rw [hv2 c_445, hv3 c_445]; exact lg_self _) h9)
    refine z_goto C 1187 dL_law_460 (by decide) ?_
    refine zW.pick (lv' := [(0, .ref b), (1, .ref (q 0)), (2, .ref (p 0)), (3, .ref qo), (4, .int (nI i))]) [2, 3, 4, 5, 6] rfl ?_
    refine zW.wid (k := c + 8) (n := s + 64) (by omega) (by omega) ?_
    exact kk a2 _ hi2 ⟨_, _, _, _, _, _, _, _, _, _, rfl, hs2, hz2⟩
set_option maxRecDepth 100000 in
set_option maxHeartbeats 4000000 in
theorem s_setPrice (l : Launch) (hl9 : l.stackTraces = false) (g : zG) (E : zEnv) (Q : State → Prop) (C : zC g E cL_law RL wsL_law 9 (some .boolean)) (F : zFx (zA E) (zs E) (zs E).heap) {b L : Nat} {xs : Nat → Int32} (S : zSc E b L xs) (q p : Nat → Nat) (qo : Nat) (a : zS) (hi : zInv a) (i : Nat) (hiL : i + 4 ≤ L) {c s : Nat} (hc : c + 8 ≤ 601024) (hs : s + 64 ≤ 7293034) (W0 : va_W) (hW : zLd g q p qo a W0) (kk : ∀ (a' : zS) (W' : va_W), zInv a' → zLd g q p qo a' W' → zW g l room_1 E Q 9 (c + 8) (s + 64) W' [(0, .ref b), (1, .ref (q 0)), (2, .ref (p 0)), (3, .ref qo), (4, .int (nI i))] [] 1187) : zW g l room_1 E Q 9 c s W0 [(0, .ref b), (1, .ref (q 0)), (2, .ref (p 0)), (3, .ref qo), (4, .int (nI i))] [] 463 := by
  obtain ⟨bs, wb, pd, gw, fo, th, la, pe, ga, sz, rfl, hs9, h0⟩ := hW
  have hLs := S.2.2.2
  refine zW.eqw (ws2 := (wB g q a (zG0 a) bs wb pd gw ++ [(qo, .inl (zJ g, 1, .inr (.inl fo)))]) ++ wM g p th a la pe ga sz) rfl ?_
  refine z_aload_n C dL_law_463 1 rfl ?_
  refine z_aload_n C dL_law_464 0 rfl ?_
  refine z_iload C dL_law_465 4 rfl ?_
  refine z_iconst C (nI 1) dL_law_467 (by decide) ?_
  refine z_iadd C dL_law_468 (v := nI (i + 1)) (nI_add i 1) ?_
  refine z_sld C S (j := i + 1) (by omega) dL_law_469 ?_
  refine z_aload_n C dL_law_470 0 rfl ?_
  refine z_iload C dL_law_471 4 rfl ?_
  refine z_iconst C (nI 2) dL_law_473 (by decide) ?_
  refine z_iadd C dL_law_474 (v := nI (i + 2)) (nI_add i 2) ?_
  refine z_sld C S (j := i + 2) (by omega) dL_law_475 ?_
  refine z_aload_n C dL_law_476 3 rfl ?_
  obtain ⟨k, v, a2, h, hk, hi2⟩ := sp_setPrice_ex hi (xs (i + 1)) (xs (i + 2))
  refine z_callSW (mc := 1) (ms := 6) C F (zMH.fr (w_setPrice l g q a bs wb pd gw qo fo hl9 hi hs9 (xs (i + 1)) (xs (i + 2)) h) [] (wM g p th a la pe ga sz)) (vx_cwSW 4 C.ts gL_law_L_setPrice rfl rfl rfl (by decide +kernel) ⟨Nat.le_of_ble_eq_true rfl, Nat.le_of_ble_eq_true rfl⟩) rfl rfl (Nat.le_of_ble_eq_true rfl) dL_law_477 ⟨Nat.le_trans (m := c + 8) (by omega) hc, Nat.le_trans (m := s + 64) (by omega) hs⟩ ?_
  rintro _ _ ⟨_, ⟨rfl, _, fo2, ⟨bs2, wb2, pd2, gw2, rfl, hs2⟩, hv2, rfl⟩, rfl⟩
  refine zW.eqw (ws2 := (wB g q a2 (zG0 a2) bs2 wb2 pd2 gw2 ++ [(qo, .inl (zJ g, 1, .inr (.inl fo2)))]) ++ wM g p th a la pe ga sz) rfl ?_
  refine z_istore C dL_law_480 (by decide) [(5, .int (nI k)), (0, .ref b), (1, .ref (q 0)), (2, .ref (p 0)), (3, .ref qo), (4, .int (nI i))] rfl ?_
  refine z_aload_n C dL_law_482 3 rfl ?_
  refine z_aload_n C dL_law_483 1 rfl ?_
  refine z_iload C dL_law_484 5 rfl ?_
  refine z_iconst C (nI 1) dL_law_486 (by decide) ?_
  refine z_iadd C dL_law_487 (v := nI (i + 1)) (nI_add i 1) ?_
  refine z_sld C S (j := i + 1) (by omega) dL_law_488 ?_
  refine z_aload_n C dL_law_489 1 rfl ?_
  refine z_iload C dL_law_490 5 rfl ?_
  refine z_iconst C (nI 2) dL_law_492 (by decide) ?_
  refine z_iadd C dL_law_493 (v := nI (i + 2)) (nI_add i 2) ?_
  refine z_sld C S (j := i + 2) (by omega) dL_law_494 ?_
  refine z_callV (mc := 0) (ms := 0) C (zM.fr (m_setPrice l g p th a la pe ga sz hi h0 (xs (i + 1)) (xs (i + 2)) h) (wB g q a2 (zG0 a2) bs2 wb2 pd2 gw2 ++ [(qo, .inl (zJ g, 1, .inr (.inl fo2)))]) []) (cwV 2 C.ts gL_law_X3_setPrice rfl rfl rfl (by decide +kernel) ⟨Nat.le_of_ble_eq_true rfl, Nat.le_of_ble_eq_true rfl⟩) zL_m rfl rfl rfl (Nat.le_of_ble_eq_true rfl) dL_law_495 ⟨Nat.le_trans (m := c + 8) (by omega) hc, Nat.le_trans (m := s + 64) (by omega) hs⟩ ?_
  rintro _ _ ⟨_, ⟨v2, rfl, hv3, la2, pe2, ga2, sz2, rfl, hz2⟩, rfl⟩
  refine zW.eqw (ws2 := (wB g q a2 (zG0 a2) bs2 wb2 pd2 gw2 ++ [(qo, .inl (zJ g, 1, .inr (.inl fo2)))]) ++ wM g p (k : Int) a2 la2 pe2 ga2 sz2) rfl ?_
  refine z_istore C dL_law_498 (by decide) [(6, .int v2), (5, .int (nI k)), (0, .ref b), (1, .ref (q 0)), (2, .ref (p 0)), (3, .ref qo), (4, .int (nI i))] rfl ?_
  refine z_aload_n C dL_law_500 4 rfl ?_
  refine z_callV (mc := 0) (ms := 0) C (zM.fr (c_X3_thrown l g p (k : Int) a2 la2 pe2 ga2 sz2) (wB g q a2 (zG0 a2) bs2 wb2 pd2 gw2 ++ [(qo, .inl (zJ g, 1, .inr (.inl fo2)))]) []) (cwV 0 C.ts gL_law_X3_thrown rfl rfl rfl (by decide +kernel) ⟨Nat.le_of_ble_eq_true rfl, Nat.le_of_ble_eq_true rfl⟩) zL_m rfl rfl rfl (Nat.le_of_ble_eq_true rfl) dL_law_501 ⟨Nat.le_trans (m := c + 8) (by omega) hc, Nat.le_trans (m := s + 64) (by omega) hs⟩ ?_
  rintro _ _ ⟨_, ⟨rfl, rfl⟩, rfl⟩
  refine zW.eqw (ws2 := (wB g q a2 (zG0 a2) bs2 wb2 pd2 gw2 ++ [(qo, .inl (zJ g, 1, .inr (.inl fo2)))]) ++ wM g p (k : Int) a2 la2 pe2 ga2 sz2) rfl ?_
  refine zW.top (y := nI k) rfl ?_
  refine z_iload C dL_law_504 1 rfl ?_
  refine z_icmp_eq C 511 dL_law_506 (by decide) (zeq_NN (by omega) (by omega)) (fun c_506 => ?_) (fun h9 => absurd rfl h9)
  refine z_iload C dL_law_511 1 rfl ?_
  refine z_if_ne C 528 dL_law_513 (by decide) (zeq_N0 (by omega)) (fun c_513 => ?_) (fun c_513 => ?_)
  · skip
    refine z_goto C 1187 dL_law_528 (by decide) ?_
    refine zW.pick (lv' := [(0, .ref b), (1, .ref (q 0)), (2, .ref (p 0)), (3, .ref qo), (4, .int (nI i))]) [2, 3, 4, 5, 6] rfl ?_
    refine zW.wid (k := c + 8) (n := s + 64) (by omega) (by omega) ?_
    exact kk a2 _ hi2 ⟨_, _, _, _, _, _, _, _, _, _, rfl, hs2, hz2⟩
  · skip
    refine z_aload_n C dL_law_516 5 rfl ?_
    refine z_iconst C (nI 0) dL_law_517 (by decide) ?_
    refine z_laldN C 20 rfl (by omega) (by decide) dL_law_518 (v := fo2 0) rfl ?_
    refine z_iload C dL_law_519 0 rfl ?_
    refine z_i2l C dL_law_521 (v := (v2).toInt64) rfl ?_
    refine z_lcmp C dL_law_522 (v := lg_cmp (fo2 0) ((v2).toInt64)) rfl ?_
    refine z_if_eq C 528 dL_law_523 (by decide) Iff.rfl (fun c_523 => ?_) (fun h9 => absurd (by rw [hv2 c_513, hv3 c_513]; exact lg_self _) h9)
    refine z_goto C 1187 dL_law_528 (by decide) ?_
    refine zW.pick (lv' := [(0, .ref b), (1, .ref (q 0)), (2, .ref (p 0)), (3, .ref qo), (4, .int (nI i))]) [2, 3, 4, 5, 6] rfl ?_
    refine zW.wid (k := c + 8) (n := s + 64) (by omega) (by omega) ?_
    exact kk a2 _ hi2 ⟨_, _, _, _, _, _, _, _, _, _, rfl, hs2, hz2⟩
set_option maxRecDepth 100000 in
set_option maxHeartbeats 4000000 in
theorem s_setWorth (l : Launch) (hl9 : l.stackTraces = false) (g : zG) (E : zEnv) (Q : State → Prop) (C : zC g E cL_law RL wsL_law 9 (some .boolean)) (F : zFx (zA E) (zs E) (zs E).heap) {b L : Nat} {xs : Nat → Int32} (S : zSc E b L xs) (q p : Nat → Nat) (qo : Nat) (a : zS) (hi : zInv a) (i : Nat) (hiL : i + 4 ≤ L) {c s : Nat} (hc : c + 8 ≤ 601024) (hs : s + 64 ≤ 7293034) (W0 : va_W) (hW : zLd g q p qo a W0) (kk : ∀ (a' : zS) (W' : va_W), zInv a' → zLd g q p qo a' W' → zW g l room_1 E Q 9 (c + 8) (s + 64) W' [(0, .ref b), (1, .ref (q 0)), (2, .ref (p 0)), (3, .ref qo), (4, .int (nI i))] [] 1187) : zW g l room_1 E Q 9 c s W0 [(0, .ref b), (1, .ref (q 0)), (2, .ref (p 0)), (3, .ref qo), (4, .int (nI i))] [] 531 := by
  obtain ⟨bs, wb, pd, gw, fo, th, la, pe, ga, sz, rfl, hs9, h0⟩ := hW
  have hLs := S.2.2.2
  refine zW.eqw (ws2 := (wB g q a (zG0 a) bs wb pd gw ++ [(qo, .inl (zJ g, 1, .inr (.inl fo)))]) ++ wM g p th a la pe ga sz) rfl ?_
  refine z_aload_n C dL_law_531 1 rfl ?_
  refine z_aload_n C dL_law_532 0 rfl ?_
  refine z_iload C dL_law_533 4 rfl ?_
  refine z_iconst C (nI 1) dL_law_535 (by decide) ?_
  refine z_iadd C dL_law_536 (v := nI (i + 1)) (nI_add i 1) ?_
  refine z_sld C S (j := i + 1) (by omega) dL_law_537 ?_
  refine z_aload_n C dL_law_538 0 rfl ?_
  refine z_iload C dL_law_539 4 rfl ?_
  refine z_iconst C (nI 2) dL_law_541 (by decide) ?_
  refine z_iadd C dL_law_542 (v := nI (i + 2)) (nI_add i 2) ?_
  refine z_sld C S (j := i + 2) (by omega) dL_law_543 ?_
  refine z_aload_n C dL_law_544 3 rfl ?_
  obtain ⟨k, v, a2, h, hk, hi2⟩ := sp_setWorth_ex hi (xs (i + 1)) (xs (i + 2))
  refine z_callSW (mc := 1) (ms := 6) C F (zMH.fr (w_setWorth l g q a bs wb pd gw qo fo hl9 hi hs9 (xs (i + 1)) (xs (i + 2)) h) [] (wM g p th a la pe ga sz)) (vx_cwSW 4 C.ts gL_law_L_setWorth rfl rfl rfl (by decide +kernel) ⟨Nat.le_of_ble_eq_true rfl, Nat.le_of_ble_eq_true rfl⟩) rfl rfl (Nat.le_of_ble_eq_true rfl) dL_law_545 ⟨Nat.le_trans (m := c + 8) (by omega) hc, Nat.le_trans (m := s + 64) (by omega) hs⟩ ?_
  rintro _ _ ⟨_, ⟨rfl, _, fo2, ⟨bs2, wb2, pd2, gw2, rfl, hs2⟩, hv2, rfl⟩, rfl⟩
  refine zW.eqw (ws2 := (wB g q a2 (zG0 a2) bs2 wb2 pd2 gw2 ++ [(qo, .inl (zJ g, 1, .inr (.inl fo2)))]) ++ wM g p th a la pe ga sz) rfl ?_
  refine z_istore C dL_law_548 (by decide) [(5, .int (nI k)), (0, .ref b), (1, .ref (q 0)), (2, .ref (p 0)), (3, .ref qo), (4, .int (nI i))] rfl ?_
  refine z_aload_n C dL_law_550 3 rfl ?_
  refine z_aload_n C dL_law_551 1 rfl ?_
  refine z_iload C dL_law_552 5 rfl ?_
  refine z_iconst C (nI 1) dL_law_554 (by decide) ?_
  refine z_iadd C dL_law_555 (v := nI (i + 1)) (nI_add i 1) ?_
  refine z_sld C S (j := i + 1) (by omega) dL_law_556 ?_
  refine z_aload_n C dL_law_557 1 rfl ?_
  refine z_iload C dL_law_558 5 rfl ?_
  refine z_iconst C (nI 2) dL_law_560 (by decide) ?_
  refine z_iadd C dL_law_561 (v := nI (i + 2)) (nI_add i 2) ?_
  refine z_sld C S (j := i + 2) (by omega) dL_law_562 ?_
  refine z_callV (mc := 0) (ms := 0) C (zM.fr (m_setWorth l g p th a la pe ga sz hi h0 (xs (i + 1)) (xs (i + 2)) h) (wB g q a2 (zG0 a2) bs2 wb2 pd2 gw2 ++ [(qo, .inl (zJ g, 1, .inr (.inl fo2)))]) []) (cwV 2 C.ts gL_law_X3_setWorth rfl rfl rfl (by decide +kernel) ⟨Nat.le_of_ble_eq_true rfl, Nat.le_of_ble_eq_true rfl⟩) zL_m rfl rfl rfl (Nat.le_of_ble_eq_true rfl) dL_law_563 ⟨Nat.le_trans (m := c + 8) (by omega) hc, Nat.le_trans (m := s + 64) (by omega) hs⟩ ?_
  rintro _ _ ⟨_, ⟨v2, rfl, hv3, la2, pe2, ga2, sz2, rfl, hz2⟩, rfl⟩
  refine zW.eqw (ws2 := (wB g q a2 (zG0 a2) bs2 wb2 pd2 gw2 ++ [(qo, .inl (zJ g, 1, .inr (.inl fo2)))]) ++ wM g p (k : Int) a2 la2 pe2 ga2 sz2) rfl ?_
  refine z_istore C dL_law_566 (by decide) [(6, .int v2), (5, .int (nI k)), (0, .ref b), (1, .ref (q 0)), (2, .ref (p 0)), (3, .ref qo), (4, .int (nI i))] rfl ?_
  refine z_aload_n C dL_law_568 4 rfl ?_
  refine z_callV (mc := 0) (ms := 0) C (zM.fr (c_X3_thrown l g p (k : Int) a2 la2 pe2 ga2 sz2) (wB g q a2 (zG0 a2) bs2 wb2 pd2 gw2 ++ [(qo, .inl (zJ g, 1, .inr (.inl fo2)))]) []) (cwV 0 C.ts gL_law_X3_thrown rfl rfl rfl (by decide +kernel) ⟨Nat.le_of_ble_eq_true rfl, Nat.le_of_ble_eq_true rfl⟩) zL_m rfl rfl rfl (Nat.le_of_ble_eq_true rfl) dL_law_569 ⟨Nat.le_trans (m := c + 8) (by omega) hc, Nat.le_trans (m := s + 64) (by omega) hs⟩ ?_
  rintro _ _ ⟨_, ⟨rfl, rfl⟩, rfl⟩
  refine zW.eqw (ws2 := (wB g q a2 (zG0 a2) bs2 wb2 pd2 gw2 ++ [(qo, .inl (zJ g, 1, .inr (.inl fo2)))]) ++ wM g p (k : Int) a2 la2 pe2 ga2 sz2) rfl ?_
  refine zW.top (y := nI k) rfl ?_
  refine z_iload C dL_law_572 1 rfl ?_
  refine z_icmp_eq C 579 dL_law_574 (by decide) (zeq_NN (by omega) (by omega)) (fun c_574 => ?_) (fun h9 => absurd rfl h9)
  refine z_iload C dL_law_579 1 rfl ?_
  refine z_if_ne C 596 dL_law_581 (by decide) (zeq_N0 (by omega)) (fun c_581 => ?_) (fun c_581 => ?_)
  · skip
    refine z_goto C 1187 dL_law_596 (by decide) ?_
    refine zW.pick (lv' := [(0, .ref b), (1, .ref (q 0)), (2, .ref (p 0)), (3, .ref qo), (4, .int (nI i))]) [2, 3, 4, 5, 6] rfl ?_
    refine zW.wid (k := c + 8) (n := s + 64) (by omega) (by omega) ?_
    exact kk a2 _ hi2 ⟨_, _, _, _, _, _, _, _, _, _, rfl, hs2, hz2⟩
  · skip
    refine z_aload_n C dL_law_584 5 rfl ?_
    refine z_iconst C (nI 0) dL_law_585 (by decide) ?_
    refine z_laldN C 20 rfl (by omega) (by decide) dL_law_586 (v := fo2 0) rfl ?_
    refine z_iload C dL_law_587 0 rfl ?_
    refine z_i2l C dL_law_589 (v := (v2).toInt64) rfl ?_
    refine z_lcmp C dL_law_590 (v := lg_cmp (fo2 0) ((v2).toInt64)) rfl ?_
    refine z_if_eq C 596 dL_law_591 (by decide) Iff.rfl (fun c_591 => ?_) (fun h9 => absurd (by rw [hv2 c_581, hv3 c_581]; exact lg_self _) h9)
    refine z_goto C 1187 dL_law_596 (by decide) ?_
    refine zW.pick (lv' := [(0, .ref b), (1, .ref (q 0)), (2, .ref (p 0)), (3, .ref qo), (4, .int (nI i))]) [2, 3, 4, 5, 6] rfl ?_
    refine zW.wid (k := c + 8) (n := s + 64) (by omega) (by omega) ?_
    exact kk a2 _ hi2 ⟨_, _, _, _, _, _, _, _, _, _, rfl, hs2, hz2⟩
set_option maxRecDepth 100000 in
set_option maxHeartbeats 4000000 in
theorem s_withdraw (l : Launch) (hl9 : l.stackTraces = false) (g : zG) (E : zEnv) (Q : State → Prop) (C : zC g E cL_law RL wsL_law 9 (some .boolean)) (F : zFx (zA E) (zs E) (zs E).heap) {b L : Nat} {xs : Nat → Int32} (S : zSc E b L xs) (q p : Nat → Nat) (qo : Nat) (a : zS) (hi : zInv a) (i : Nat) (hiL : i + 4 ≤ L) {c s : Nat} (hc : c + 8 ≤ 601024) (hs : s + 64 ≤ 7293034) (W0 : va_W) (hW : zLd g q p qo a W0) (kk : ∀ (a' : zS) (W' : va_W), zInv a' → zLd g q p qo a' W' → zW g l room_1 E Q 9 (c + 8) (s + 64) W' [(0, .ref b), (1, .ref (q 0)), (2, .ref (p 0)), (3, .ref qo), (4, .int (nI i))] [] 1187) : zW g l room_1 E Q 9 c s W0 [(0, .ref b), (1, .ref (q 0)), (2, .ref (p 0)), (3, .ref qo), (4, .int (nI i))] [] 599 := by
  obtain ⟨bs, wb, pd, gw, fo, th, la, pe, ga, sz, rfl, hs9, h0⟩ := hW
  have hLs := S.2.2.2
  refine zW.eqw (ws2 := (wB g q a (zG0 a) bs wb pd gw ++ [(qo, .inl (zJ g, 1, .inr (.inl fo)))]) ++ wM g p th a la pe ga sz) rfl ?_
  refine z_aload_n C dL_law_599 1 rfl ?_
  refine z_aload_n C dL_law_600 0 rfl ?_
  refine z_iload C dL_law_601 4 rfl ?_
  refine z_iconst C (nI 1) dL_law_603 (by decide) ?_
  refine z_iadd C dL_law_604 (v := nI (i + 1)) (nI_add i 1) ?_
  refine z_sld C S (j := i + 1) (by omega) dL_law_605 ?_
  refine z_aload_n C dL_law_606 3 rfl ?_
  obtain ⟨k, v, a2, h, hk, hi2⟩ := sp_withdraw_ex hi (xs (i + 1))
  refine z_callSW (mc := 1) (ms := 6) C F (zMH.fr (w_withdraw l g q a bs wb pd gw qo fo hl9 hi hs9 (xs (i + 1)) h) [] (wM g p th a la pe ga sz)) (vx_cwSW 3 C.ts gL_law_L_withdraw rfl rfl rfl (by decide +kernel) ⟨Nat.le_of_ble_eq_true rfl, Nat.le_of_ble_eq_true rfl⟩) rfl rfl (Nat.le_of_ble_eq_true rfl) dL_law_607 ⟨Nat.le_trans (m := c + 8) (by omega) hc, Nat.le_trans (m := s + 64) (by omega) hs⟩ ?_
  rintro _ _ ⟨_, ⟨rfl, _, fo2, ⟨bs2, wb2, pd2, gw2, rfl, hs2⟩, hv2, rfl⟩, rfl⟩
  refine zW.eqw (ws2 := (wB g q a2 (zG0 a2) bs2 wb2 pd2 gw2 ++ [(qo, .inl (zJ g, 1, .inr (.inl fo2)))]) ++ wM g p th a la pe ga sz) rfl ?_
  refine z_istore C dL_law_610 (by decide) [(5, .int (nI k)), (0, .ref b), (1, .ref (q 0)), (2, .ref (p 0)), (3, .ref qo), (4, .int (nI i))] rfl ?_
  refine z_aload_n C dL_law_612 3 rfl ?_
  refine z_aload_n C dL_law_613 1 rfl ?_
  refine z_iload C dL_law_614 5 rfl ?_
  refine z_iconst C (nI 1) dL_law_616 (by decide) ?_
  refine z_iadd C dL_law_617 (v := nI (i + 1)) (nI_add i 1) ?_
  refine z_sld C S (j := i + 1) (by omega) dL_law_618 ?_
  refine z_callV (mc := 0) (ms := 0) C (zM.fr (m_withdraw l g p th a la pe ga sz hi h0 (xs (i + 1)) h) (wB g q a2 (zG0 a2) bs2 wb2 pd2 gw2 ++ [(qo, .inl (zJ g, 1, .inr (.inl fo2)))]) []) (cwV 1 C.ts gL_law_X3_withdraw rfl rfl rfl (by decide +kernel) ⟨Nat.le_of_ble_eq_true rfl, Nat.le_of_ble_eq_true rfl⟩) zL_m rfl rfl rfl (Nat.le_of_ble_eq_true rfl) dL_law_619 ⟨Nat.le_trans (m := c + 8) (by omega) hc, Nat.le_trans (m := s + 64) (by omega) hs⟩ ?_
  rintro _ _ ⟨_, ⟨v2, rfl, hv3, la2, pe2, ga2, sz2, rfl, hz2⟩, rfl⟩
  refine zW.eqw (ws2 := (wB g q a2 (zG0 a2) bs2 wb2 pd2 gw2 ++ [(qo, .inl (zJ g, 1, .inr (.inl fo2)))]) ++ wM g p (k : Int) a2 la2 pe2 ga2 sz2) rfl ?_
  refine z_istore C dL_law_622 (by decide) [(6, .int v2), (5, .int (nI k)), (0, .ref b), (1, .ref (q 0)), (2, .ref (p 0)), (3, .ref qo), (4, .int (nI i))] rfl ?_
  refine z_aload_n C dL_law_624 4 rfl ?_
  refine z_callV (mc := 0) (ms := 0) C (zM.fr (c_X3_thrown l g p (k : Int) a2 la2 pe2 ga2 sz2) (wB g q a2 (zG0 a2) bs2 wb2 pd2 gw2 ++ [(qo, .inl (zJ g, 1, .inr (.inl fo2)))]) []) (cwV 0 C.ts gL_law_X3_thrown rfl rfl rfl (by decide +kernel) ⟨Nat.le_of_ble_eq_true rfl, Nat.le_of_ble_eq_true rfl⟩) zL_m rfl rfl rfl (Nat.le_of_ble_eq_true rfl) dL_law_625 ⟨Nat.le_trans (m := c + 8) (by omega) hc, Nat.le_trans (m := s + 64) (by omega) hs⟩ ?_
  rintro _ _ ⟨_, ⟨rfl, rfl⟩, rfl⟩
  refine zW.eqw (ws2 := (wB g q a2 (zG0 a2) bs2 wb2 pd2 gw2 ++ [(qo, .inl (zJ g, 1, .inr (.inl fo2)))]) ++ wM g p (k : Int) a2 la2 pe2 ga2 sz2) rfl ?_
  refine zW.top (y := nI k) rfl ?_
  refine z_iload C dL_law_628 1 rfl ?_
  refine z_icmp_eq C 635 dL_law_630 (by decide) (zeq_NN (by omega) (by omega)) (fun c_630 => ?_) (fun h9 => absurd rfl h9)
  refine z_iload C dL_law_635 1 rfl ?_
  refine z_if_ne C 652 dL_law_637 (by decide) (zeq_N0 (by omega)) (fun c_637 => ?_) (fun c_637 => ?_)
  · skip
    refine z_goto C 1187 dL_law_652 (by decide) ?_
    refine zW.pick (lv' := [(0, .ref b), (1, .ref (q 0)), (2, .ref (p 0)), (3, .ref qo), (4, .int (nI i))]) [2, 3, 4, 5, 6] rfl ?_
    refine zW.wid (k := c + 8) (n := s + 64) (by omega) (by omega) ?_
    exact kk a2 _ hi2 ⟨_, _, _, _, _, _, _, _, _, _, rfl, hs2, hz2⟩
  · skip
    refine z_aload_n C dL_law_640 5 rfl ?_
    refine z_iconst C (nI 0) dL_law_641 (by decide) ?_
    refine z_laldN C 20 rfl (by omega) (by decide) dL_law_642 (v := fo2 0) rfl ?_
    refine z_iload C dL_law_643 0 rfl ?_
    refine z_i2l C dL_law_645 (v := (v2).toInt64) rfl ?_
    refine z_lcmp C dL_law_646 (v := lg_cmp (fo2 0) ((v2).toInt64)) rfl ?_
    refine z_if_eq C 652 dL_law_647 (by decide) Iff.rfl (fun c_647 => ?_) (fun h9 => absurd (by rw [hv2 c_637, hv3 c_637]; exact lg_self _) h9)
    refine z_goto C 1187 dL_law_652 (by decide) ?_
    refine zW.pick (lv' := [(0, .ref b), (1, .ref (q 0)), (2, .ref (p 0)), (3, .ref qo), (4, .int (nI i))]) [2, 3, 4, 5, 6] rfl ?_
    refine zW.wid (k := c + 8) (n := s + 64) (by omega) (by omega) ?_
    exact kk a2 _ hi2 ⟨_, _, _, _, _, _, _, _, _, _, rfl, hs2, hz2⟩
set_option maxRecDepth 100000 in
set_option maxHeartbeats 4000000 in
theorem s_told (l : Launch) (hl9 : l.stackTraces = false) (g : zG) (E : zEnv) (Q : State → Prop) (C : zC g E cL_law RL wsL_law 9 (some .boolean)) (F : zFx (zA E) (zs E) (zs E).heap) {b L : Nat} {xs : Nat → Int32} (S : zSc E b L xs) (q p : Nat → Nat) (qo : Nat) (a : zS) (hi : zInv a) (i : Nat) (hiL : i + 4 ≤ L) {c s : Nat} (hc : c + 8 ≤ 601024) (hs : s + 64 ≤ 7293034) (W0 : va_W) (hW : zLd g q p qo a W0) (kk : ∀ (a' : zS) (W' : va_W), zInv a' → zLd g q p qo a' W' → zW g l room_1 E Q 9 (c + 8) (s + 64) W' [(0, .ref b), (1, .ref (q 0)), (2, .ref (p 0)), (3, .ref qo), (4, .int (nI i))] [] 1187) : zW g l room_1 E Q 9 c s W0 [(0, .ref b), (1, .ref (q 0)), (2, .ref (p 0)), (3, .ref qo), (4, .int (nI i))] [] 655 := by
  obtain ⟨bs, wb, pd, gw, fo, th, la, pe, ga, sz, rfl, hs9, h0⟩ := hW
  have hLs := S.2.2.2
  refine zW.eqw (ws2 := (wB g q a (zG0 a) bs wb pd gw ++ [(qo, .inl (zJ g, 1, .inr (.inl fo)))]) ++ wM g p th a la pe ga sz) rfl ?_
  refine z_aload_n C dL_law_655 1 rfl ?_
  refine z_aload_n C dL_law_656 0 rfl ?_
  refine z_iload C dL_law_657 4 rfl ?_
  refine z_iconst C (nI 1) dL_law_659 (by decide) ?_
  refine z_iadd C dL_law_660 (v := nI (i + 1)) (nI_add i 1) ?_
  refine z_sld C S (j := i + 1) (by omega) dL_law_661 ?_
  refine z_aload_n C dL_law_662 0 rfl ?_
  refine z_iload C dL_law_663 4 rfl ?_
  refine z_iconst C (nI 2) dL_law_665 (by decide) ?_
  refine z_iadd C dL_law_666 (v := nI (i + 2)) (nI_add i 2) ?_
  refine z_sld C S (j := i + 2) (by omega) dL_law_667 ?_
  refine z_aload_n C dL_law_668 3 rfl ?_
  obtain ⟨k, v, a2, h, hk, hi2⟩ := sp_told_ex hi (xs (i + 1)) (xs (i + 2))
  refine z_callSW (mc := 1) (ms := 6) C F (zMH.fr (w_told l g q a bs wb pd gw qo fo hl9 hi hs9 (xs (i + 1)) (xs (i + 2)) h) [] (wM g p th a la pe ga sz)) (vx_cwSW 4 C.ts gL_law_L_told rfl rfl rfl (by decide +kernel) ⟨Nat.le_of_ble_eq_true rfl, Nat.le_of_ble_eq_true rfl⟩) rfl rfl (Nat.le_of_ble_eq_true rfl) dL_law_669 ⟨Nat.le_trans (m := c + 8) (by omega) hc, Nat.le_trans (m := s + 64) (by omega) hs⟩ ?_
  rintro _ _ ⟨_, ⟨rfl, _, fo2, ⟨bs2, wb2, pd2, gw2, rfl, hs2⟩, hv2, rfl⟩, rfl⟩
  refine zW.eqw (ws2 := (wB g q a2 (zG0 a2) bs2 wb2 pd2 gw2 ++ [(qo, .inl (zJ g, 1, .inr (.inl fo2)))]) ++ wM g p th a la pe ga sz) rfl ?_
  refine z_istore C dL_law_672 (by decide) [(5, .int (nI k)), (0, .ref b), (1, .ref (q 0)), (2, .ref (p 0)), (3, .ref qo), (4, .int (nI i))] rfl ?_
  refine z_aload_n C dL_law_674 3 rfl ?_
  refine z_aload_n C dL_law_675 1 rfl ?_
  refine z_iload C dL_law_676 5 rfl ?_
  refine z_iconst C (nI 1) dL_law_678 (by decide) ?_
  refine z_iadd C dL_law_679 (v := nI (i + 1)) (nI_add i 1) ?_
  refine z_sld C S (j := i + 1) (by omega) dL_law_680 ?_
  refine z_aload_n C dL_law_681 1 rfl ?_
  refine z_iload C dL_law_682 5 rfl ?_
  refine z_iconst C (nI 2) dL_law_684 (by decide) ?_
  refine z_iadd C dL_law_685 (v := nI (i + 2)) (nI_add i 2) ?_
  refine z_sld C S (j := i + 2) (by omega) dL_law_686 ?_
  refine z_callV (mc := 0) (ms := 0) C (zM.fr (m_told l g p th a la pe ga sz hi h0 (xs (i + 1)) (xs (i + 2)) h) (wB g q a2 (zG0 a2) bs2 wb2 pd2 gw2 ++ [(qo, .inl (zJ g, 1, .inr (.inl fo2)))]) []) (cwV 2 C.ts gL_law_X3_told rfl rfl rfl (by decide +kernel) ⟨Nat.le_of_ble_eq_true rfl, Nat.le_of_ble_eq_true rfl⟩) zL_m rfl rfl rfl (Nat.le_of_ble_eq_true rfl) dL_law_687 ⟨Nat.le_trans (m := c + 8) (by omega) hc, Nat.le_trans (m := s + 64) (by omega) hs⟩ ?_
  rintro _ _ ⟨_, ⟨v2, rfl, hv3, la2, pe2, ga2, sz2, rfl, hz2⟩, rfl⟩
  refine zW.eqw (ws2 := (wB g q a2 (zG0 a2) bs2 wb2 pd2 gw2 ++ [(qo, .inl (zJ g, 1, .inr (.inl fo2)))]) ++ wM g p (k : Int) a2 la2 pe2 ga2 sz2) rfl ?_
  refine z_istore C dL_law_690 (by decide) [(6, .int v2), (5, .int (nI k)), (0, .ref b), (1, .ref (q 0)), (2, .ref (p 0)), (3, .ref qo), (4, .int (nI i))] rfl ?_
  refine z_aload_n C dL_law_692 4 rfl ?_
  refine z_callV (mc := 0) (ms := 0) C (zM.fr (c_X3_thrown l g p (k : Int) a2 la2 pe2 ga2 sz2) (wB g q a2 (zG0 a2) bs2 wb2 pd2 gw2 ++ [(qo, .inl (zJ g, 1, .inr (.inl fo2)))]) []) (cwV 0 C.ts gL_law_X3_thrown rfl rfl rfl (by decide +kernel) ⟨Nat.le_of_ble_eq_true rfl, Nat.le_of_ble_eq_true rfl⟩) zL_m rfl rfl rfl (Nat.le_of_ble_eq_true rfl) dL_law_693 ⟨Nat.le_trans (m := c + 8) (by omega) hc, Nat.le_trans (m := s + 64) (by omega) hs⟩ ?_
  rintro _ _ ⟨_, ⟨rfl, rfl⟩, rfl⟩
  refine zW.eqw (ws2 := (wB g q a2 (zG0 a2) bs2 wb2 pd2 gw2 ++ [(qo, .inl (zJ g, 1, .inr (.inl fo2)))]) ++ wM g p (k : Int) a2 la2 pe2 ga2 sz2) rfl ?_
  refine zW.top (y := nI k) rfl ?_
  refine z_iload C dL_law_696 1 rfl ?_
  refine z_icmp_eq C 703 dL_law_698 (by decide) (zeq_NN (by omega) (by omega)) (fun c_698 => ?_) (fun h9 => absurd rfl h9)
  refine z_iload C dL_law_703 1 rfl ?_
  refine z_if_ne C 720 dL_law_705 (by decide) (zeq_N0 (by omega)) (fun c_705 => ?_) (fun c_705 => ?_)
  · skip
    refine z_goto C 1187 dL_law_720 (by decide) ?_
    refine zW.pick (lv' := [(0, .ref b), (1, .ref (q 0)), (2, .ref (p 0)), (3, .ref qo), (4, .int (nI i))]) [2, 3, 4, 5, 6] rfl ?_
    refine zW.wid (k := c + 8) (n := s + 64) (by omega) (by omega) ?_
    exact kk a2 _ hi2 ⟨_, _, _, _, _, _, _, _, _, _, rfl, hs2, hz2⟩
  · skip
    refine z_aload_n C dL_law_708 5 rfl ?_
    refine z_iconst C (nI 0) dL_law_709 (by decide) ?_
    refine z_laldN C 20 rfl (by omega) (by decide) dL_law_710 (v := fo2 0) rfl ?_
    refine z_iload C dL_law_711 0 rfl ?_
    refine z_i2l C dL_law_713 (v := (v2).toInt64) rfl ?_
    refine z_lcmp C dL_law_714 (v := lg_cmp (fo2 0) ((v2).toInt64)) rfl ?_
    refine z_if_eq C 720 dL_law_715 (by decide) Iff.rfl (fun c_715 => ?_) (fun h9 => absurd (by rw [hv2 c_705, hv3 c_705]; exact lg_self _) h9)
    refine z_goto C 1187 dL_law_720 (by decide) ?_
    refine zW.pick (lv' := [(0, .ref b), (1, .ref (q 0)), (2, .ref (p 0)), (3, .ref qo), (4, .int (nI i))]) [2, 3, 4, 5, 6] rfl ?_
    refine zW.wid (k := c + 8) (n := s + 64) (by omega) (by omega) ?_
    exact kk a2 _ hi2 ⟨_, _, _, _, _, _, _, _, _, _, rfl, hs2, hz2⟩
set_option maxRecDepth 100000 in
set_option maxHeartbeats 4000000 in
theorem s_about (l : Launch) (hl9 : l.stackTraces = false) (g : zG) (E : zEnv) (Q : State → Prop) (C : zC g E cL_law RL wsL_law 9 (some .boolean)) (F : zFx (zA E) (zs E) (zs E).heap) {b L : Nat} {xs : Nat → Int32} (S : zSc E b L xs) (q p : Nat → Nat) (qo : Nat) (a : zS) (hi : zInv a) (i : Nat) (hiL : i + 4 ≤ L) {c s : Nat} (hc : c + 8 ≤ 601024) (hs : s + 64 ≤ 7293034) (W0 : va_W) (hW : zLd g q p qo a W0) (kk : ∀ (a' : zS) (W' : va_W), zInv a' → zLd g q p qo a' W' → zW g l room_1 E Q 9 (c + 8) (s + 64) W' [(0, .ref b), (1, .ref (q 0)), (2, .ref (p 0)), (3, .ref qo), (4, .int (nI i))] [] 1187) : zW g l room_1 E Q 9 c s W0 [(0, .ref b), (1, .ref (q 0)), (2, .ref (p 0)), (3, .ref qo), (4, .int (nI i))] [] 723 := by
  obtain ⟨bs, wb, pd, gw, fo, th, la, pe, ga, sz, rfl, hs9, h0⟩ := hW
  have hLs := S.2.2.2
  refine zW.eqw (ws2 := (wB g q a (zG0 a) bs wb pd gw ++ [(qo, .inl (zJ g, 1, .inr (.inl fo)))]) ++ wM g p th a la pe ga sz) rfl ?_
  refine z_aload_n C dL_law_723 1 rfl ?_
  refine z_aload_n C dL_law_724 0 rfl ?_
  refine z_iload C dL_law_725 4 rfl ?_
  refine z_iconst C (nI 1) dL_law_727 (by decide) ?_
  refine z_iadd C dL_law_728 (v := nI (i + 1)) (nI_add i 1) ?_
  refine z_sld C S (j := i + 1) (by omega) dL_law_729 ?_
  refine z_aload_n C dL_law_730 0 rfl ?_
  refine z_iload C dL_law_731 4 rfl ?_
  refine z_iconst C (nI 2) dL_law_733 (by decide) ?_
  refine z_iadd C dL_law_734 (v := nI (i + 2)) (nI_add i 2) ?_
  refine z_sld C S (j := i + 2) (by omega) dL_law_735 ?_
  refine z_aload_n C dL_law_736 3 rfl ?_
  obtain ⟨k, v, a2, h, hk, hi2⟩ := sp_about_ex hi (xs (i + 1)) (xs (i + 2))
  refine z_callSW (mc := 1) (ms := 6) C F (zMH.fr (w_about l g q a bs wb pd gw qo fo hl9 hi hs9 (xs (i + 1)) (xs (i + 2)) h) [] (wM g p th a la pe ga sz)) (vx_cwSW 4 C.ts gL_law_L_about rfl rfl rfl (by decide +kernel) ⟨Nat.le_of_ble_eq_true rfl, Nat.le_of_ble_eq_true rfl⟩) rfl rfl (Nat.le_of_ble_eq_true rfl) dL_law_737 ⟨Nat.le_trans (m := c + 8) (by omega) hc, Nat.le_trans (m := s + 64) (by omega) hs⟩ ?_
  rintro _ _ ⟨_, ⟨rfl, _, fo2, ⟨bs2, wb2, pd2, gw2, rfl, hs2⟩, hv2, rfl⟩, rfl⟩
  refine zW.eqw (ws2 := (wB g q a2 (zG0 a2) bs2 wb2 pd2 gw2 ++ [(qo, .inl (zJ g, 1, .inr (.inl fo2)))]) ++ wM g p th a la pe ga sz) rfl ?_
  refine z_istore C dL_law_740 (by decide) [(5, .int (nI k)), (0, .ref b), (1, .ref (q 0)), (2, .ref (p 0)), (3, .ref qo), (4, .int (nI i))] rfl ?_
  refine z_aload_n C dL_law_742 3 rfl ?_
  refine z_aload_n C dL_law_743 1 rfl ?_
  refine z_iload C dL_law_744 5 rfl ?_
  refine z_iconst C (nI 1) dL_law_746 (by decide) ?_
  refine z_iadd C dL_law_747 (v := nI (i + 1)) (nI_add i 1) ?_
  refine z_sld C S (j := i + 1) (by omega) dL_law_748 ?_
  refine z_aload_n C dL_law_749 1 rfl ?_
  refine z_iload C dL_law_750 5 rfl ?_
  refine z_iconst C (nI 2) dL_law_752 (by decide) ?_
  refine z_iadd C dL_law_753 (v := nI (i + 2)) (nI_add i 2) ?_
  refine z_sld C S (j := i + 2) (by omega) dL_law_754 ?_
  refine z_callV (mc := 0) (ms := 0) C (zM.fr (m_about l g p th a la pe ga sz hi h0 (xs (i + 1)) (xs (i + 2)) h) (wB g q a2 (zG0 a2) bs2 wb2 pd2 gw2 ++ [(qo, .inl (zJ g, 1, .inr (.inl fo2)))]) []) (cwV 2 C.ts gL_law_X3_about rfl rfl rfl (by decide +kernel) ⟨Nat.le_of_ble_eq_true rfl, Nat.le_of_ble_eq_true rfl⟩) zL_m rfl rfl rfl (Nat.le_of_ble_eq_true rfl) dL_law_755 ⟨Nat.le_trans (m := c + 8) (by omega) hc, Nat.le_trans (m := s + 64) (by omega) hs⟩ ?_
  rintro _ _ ⟨_, ⟨v2, rfl, hv3, la2, pe2, ga2, sz2, rfl, hz2⟩, rfl⟩
  refine zW.eqw (ws2 := (wB g q a2 (zG0 a2) bs2 wb2 pd2 gw2 ++ [(qo, .inl (zJ g, 1, .inr (.inl fo2)))]) ++ wM g p (k : Int) a2 la2 pe2 ga2 sz2) rfl ?_
  refine z_istore C dL_law_758 (by decide) [(6, .int v2), (5, .int (nI k)), (0, .ref b), (1, .ref (q 0)), (2, .ref (p 0)), (3, .ref qo), (4, .int (nI i))] rfl ?_
  refine z_aload_n C dL_law_760 4 rfl ?_
  refine z_callV (mc := 0) (ms := 0) C (zM.fr (c_X3_thrown l g p (k : Int) a2 la2 pe2 ga2 sz2) (wB g q a2 (zG0 a2) bs2 wb2 pd2 gw2 ++ [(qo, .inl (zJ g, 1, .inr (.inl fo2)))]) []) (cwV 0 C.ts gL_law_X3_thrown rfl rfl rfl (by decide +kernel) ⟨Nat.le_of_ble_eq_true rfl, Nat.le_of_ble_eq_true rfl⟩) zL_m rfl rfl rfl (Nat.le_of_ble_eq_true rfl) dL_law_761 ⟨Nat.le_trans (m := c + 8) (by omega) hc, Nat.le_trans (m := s + 64) (by omega) hs⟩ ?_
  rintro _ _ ⟨_, ⟨rfl, rfl⟩, rfl⟩
  refine zW.eqw (ws2 := (wB g q a2 (zG0 a2) bs2 wb2 pd2 gw2 ++ [(qo, .inl (zJ g, 1, .inr (.inl fo2)))]) ++ wM g p (k : Int) a2 la2 pe2 ga2 sz2) rfl ?_
  refine zW.top (y := nI k) rfl ?_
  refine z_iload C dL_law_764 1 rfl ?_
  refine z_icmp_eq C 771 dL_law_766 (by decide) (zeq_NN (by omega) (by omega)) (fun c_766 => ?_) (fun h9 => absurd rfl h9)
  refine z_iload C dL_law_771 1 rfl ?_
  refine z_if_ne C 788 dL_law_773 (by decide) (zeq_N0 (by omega)) (fun c_773 => ?_) (fun c_773 => ?_)
  · skip
    refine z_goto C 1187 dL_law_788 (by decide) ?_
    refine zW.pick (lv' := [(0, .ref b), (1, .ref (q 0)), (2, .ref (p 0)), (3, .ref qo), (4, .int (nI i))]) [2, 3, 4, 5, 6] rfl ?_
    refine zW.wid (k := c + 8) (n := s + 64) (by omega) (by omega) ?_
    exact kk a2 _ hi2 ⟨_, _, _, _, _, _, _, _, _, _, rfl, hs2, hz2⟩
  · skip
    refine z_aload_n C dL_law_776 5 rfl ?_
    refine z_iconst C (nI 0) dL_law_777 (by decide) ?_
    refine z_laldN C 20 rfl (by omega) (by decide) dL_law_778 (v := fo2 0) rfl ?_
    refine z_iload C dL_law_779 0 rfl ?_
    refine z_i2l C dL_law_781 (v := (v2).toInt64) rfl ?_
    refine z_lcmp C dL_law_782 (v := lg_cmp (fo2 0) ((v2).toInt64)) rfl ?_
    refine z_if_eq C 788 dL_law_783 (by decide) Iff.rfl (fun c_783 => ?_) (fun h9 => absurd (by rw [hv2 c_773, hv3 c_773]; exact lg_self _) h9)
    refine z_goto C 1187 dL_law_788 (by decide) ?_
    refine zW.pick (lv' := [(0, .ref b), (1, .ref (q 0)), (2, .ref (p 0)), (3, .ref qo), (4, .int (nI i))]) [2, 3, 4, 5, 6] rfl ?_
    refine zW.wid (k := c + 8) (n := s + 64) (by omega) (by omega) ?_
    exact kk a2 _ hi2 ⟨_, _, _, _, _, _, _, _, _, _, rfl, hs2, hz2⟩
set_option maxRecDepth 100000 in
set_option maxHeartbeats 4000000 in
theorem s_land (l : Launch) (hl9 : l.stackTraces = false) (g : zG) (E : zEnv) (Q : State → Prop) (C : zC g E cL_law RL wsL_law 9 (some .boolean)) (F : zFx (zA E) (zs E) (zs E).heap) {b L : Nat} {xs : Nat → Int32} (S : zSc E b L xs) (q p : Nat → Nat) (qo : Nat) (a : zS) (hi : zInv a) (i : Nat) (hiL : i + 4 ≤ L) {c s : Nat} (hc : c + 8 ≤ 601024) (hs : s + 64 ≤ 7293034) (W0 : va_W) (hW : zLd g q p qo a W0) (kk : ∀ (a' : zS) (W' : va_W), zInv a' → zLd g q p qo a' W' → zW g l room_1 E Q 9 (c + 8) (s + 64) W' [(0, .ref b), (1, .ref (q 0)), (2, .ref (p 0)), (3, .ref qo), (4, .int (nI i))] [] 1187) : zW g l room_1 E Q 9 c s W0 [(0, .ref b), (1, .ref (q 0)), (2, .ref (p 0)), (3, .ref qo), (4, .int (nI i))] [] 791 := by
  obtain ⟨bs, wb, pd, gw, fo, th, la, pe, ga, sz, rfl, hs9, h0⟩ := hW
  have hLs := S.2.2.2
  refine zW.eqw (ws2 := (wB g q a (zG0 a) bs wb pd gw ++ [(qo, .inl (zJ g, 1, .inr (.inl fo)))]) ++ wM g p th a la pe ga sz) rfl ?_
  refine z_aload_n C dL_law_791 1 rfl ?_
  refine z_aload_n C dL_law_792 0 rfl ?_
  refine z_iload C dL_law_793 4 rfl ?_
  refine z_iconst C (nI 1) dL_law_795 (by decide) ?_
  refine z_iadd C dL_law_796 (v := nI (i + 1)) (nI_add i 1) ?_
  refine z_sld C S (j := i + 1) (by omega) dL_law_797 ?_
  refine z_aload_n C dL_law_798 0 rfl ?_
  refine z_iload C dL_law_799 4 rfl ?_
  refine z_iconst C (nI 2) dL_law_801 (by decide) ?_
  refine z_iadd C dL_law_802 (v := nI (i + 2)) (nI_add i 2) ?_
  refine z_sld C S (j := i + 2) (by omega) dL_law_803 ?_
  refine z_aload_n C dL_law_804 3 rfl ?_
  obtain ⟨k, v, a2, h, hk, hi2⟩ := sp_land_ex hi (xs (i + 1)) (xs (i + 2))
  refine z_callSW (mc := 1) (ms := 6) C F (zMH.fr (w_land l g q a bs wb pd gw qo fo hl9 hi hs9 (xs (i + 1)) (xs (i + 2)) h) [] (wM g p th a la pe ga sz)) (vx_cwSW 4 C.ts gL_law_L_land rfl rfl rfl (by decide +kernel) ⟨Nat.le_of_ble_eq_true rfl, Nat.le_of_ble_eq_true rfl⟩) rfl rfl (Nat.le_of_ble_eq_true rfl) dL_law_805 ⟨Nat.le_trans (m := c + 8) (by omega) hc, Nat.le_trans (m := s + 64) (by omega) hs⟩ ?_
  rintro _ _ ⟨_, ⟨rfl, _, fo2, ⟨bs2, wb2, pd2, gw2, rfl, hs2⟩, hv2, rfl⟩, rfl⟩
  refine zW.eqw (ws2 := (wB g q a2 (zG0 a2) bs2 wb2 pd2 gw2 ++ [(qo, .inl (zJ g, 1, .inr (.inl fo2)))]) ++ wM g p th a la pe ga sz) rfl ?_
  refine z_istore C dL_law_808 (by decide) [(5, .int (nI k)), (0, .ref b), (1, .ref (q 0)), (2, .ref (p 0)), (3, .ref qo), (4, .int (nI i))] rfl ?_
  refine z_aload_n C dL_law_810 3 rfl ?_
  refine z_aload_n C dL_law_811 1 rfl ?_
  refine z_iload C dL_law_812 5 rfl ?_
  refine z_iconst C (nI 1) dL_law_814 (by decide) ?_
  refine z_iadd C dL_law_815 (v := nI (i + 1)) (nI_add i 1) ?_
  refine z_sld C S (j := i + 1) (by omega) dL_law_816 ?_
  refine z_aload_n C dL_law_817 1 rfl ?_
  refine z_iload C dL_law_818 5 rfl ?_
  refine z_iconst C (nI 2) dL_law_820 (by decide) ?_
  refine z_iadd C dL_law_821 (v := nI (i + 2)) (nI_add i 2) ?_
  refine z_sld C S (j := i + 2) (by omega) dL_law_822 ?_
  refine z_callV (mc := 0) (ms := 0) C (zM.fr (m_land l g p th a la pe ga sz hi h0 (xs (i + 1)) (xs (i + 2)) h) (wB g q a2 (zG0 a2) bs2 wb2 pd2 gw2 ++ [(qo, .inl (zJ g, 1, .inr (.inl fo2)))]) []) (cwV 2 C.ts gL_law_X3_land rfl rfl rfl (by decide +kernel) ⟨Nat.le_of_ble_eq_true rfl, Nat.le_of_ble_eq_true rfl⟩) zL_m rfl rfl rfl (Nat.le_of_ble_eq_true rfl) dL_law_823 ⟨Nat.le_trans (m := c + 8) (by omega) hc, Nat.le_trans (m := s + 64) (by omega) hs⟩ ?_
  rintro _ _ ⟨_, ⟨v2, rfl, hv3, la2, pe2, ga2, sz2, rfl, hz2⟩, rfl⟩
  refine zW.eqw (ws2 := (wB g q a2 (zG0 a2) bs2 wb2 pd2 gw2 ++ [(qo, .inl (zJ g, 1, .inr (.inl fo2)))]) ++ wM g p (k : Int) a2 la2 pe2 ga2 sz2) rfl ?_
  refine z_istore C dL_law_826 (by decide) [(6, .int v2), (5, .int (nI k)), (0, .ref b), (1, .ref (q 0)), (2, .ref (p 0)), (3, .ref qo), (4, .int (nI i))] rfl ?_
  refine z_aload_n C dL_law_828 4 rfl ?_
  refine z_callV (mc := 0) (ms := 0) C (zM.fr (c_X3_thrown l g p (k : Int) a2 la2 pe2 ga2 sz2) (wB g q a2 (zG0 a2) bs2 wb2 pd2 gw2 ++ [(qo, .inl (zJ g, 1, .inr (.inl fo2)))]) []) (cwV 0 C.ts gL_law_X3_thrown rfl rfl rfl (by decide +kernel) ⟨Nat.le_of_ble_eq_true rfl, Nat.le_of_ble_eq_true rfl⟩) zL_m rfl rfl rfl (Nat.le_of_ble_eq_true rfl) dL_law_829 ⟨Nat.le_trans (m := c + 8) (by omega) hc, Nat.le_trans (m := s + 64) (by omega) hs⟩ ?_
  rintro _ _ ⟨_, ⟨rfl, rfl⟩, rfl⟩
  refine zW.eqw (ws2 := (wB g q a2 (zG0 a2) bs2 wb2 pd2 gw2 ++ [(qo, .inl (zJ g, 1, .inr (.inl fo2)))]) ++ wM g p (k : Int) a2 la2 pe2 ga2 sz2) rfl ?_
  refine zW.top (y := nI k) rfl ?_
  refine z_iload C dL_law_832 1 rfl ?_
  refine z_icmp_eq C 839 dL_law_834 (by decide) (zeq_NN (by omega) (by omega)) (fun c_834 => ?_) (fun h9 => absurd rfl h9)
  refine z_iload C dL_law_839 1 rfl ?_
  refine z_if_ne C 856 dL_law_841 (by decide) (zeq_N0 (by omega)) (fun c_841 => ?_) (fun c_841 => ?_)
  · skip
    refine z_goto C 1187 dL_law_856 (by decide) ?_
    refine zW.pick (lv' := [(0, .ref b), (1, .ref (q 0)), (2, .ref (p 0)), (3, .ref qo), (4, .int (nI i))]) [2, 3, 4, 5, 6] rfl ?_
    refine zW.wid (k := c + 8) (n := s + 64) (by omega) (by omega) ?_
    exact kk a2 _ hi2 ⟨_, _, _, _, _, _, _, _, _, _, rfl, hs2, hz2⟩
  · skip
    refine z_aload_n C dL_law_844 5 rfl ?_
    refine z_iconst C (nI 0) dL_law_845 (by decide) ?_
    refine z_laldN C 20 rfl (by omega) (by decide) dL_law_846 (v := fo2 0) rfl ?_
    refine z_iload C dL_law_847 0 rfl ?_
    refine z_i2l C dL_law_849 (v := (v2).toInt64) rfl ?_
    refine z_lcmp C dL_law_850 (v := lg_cmp (fo2 0) ((v2).toInt64)) rfl ?_
    refine z_if_eq C 856 dL_law_851 (by decide) Iff.rfl (fun c_851 => ?_) (fun h9 => absurd (by rw [hv2 c_841, hv3 c_841]; exact lg_self _) h9)
    refine z_goto C 1187 dL_law_856 (by decide) ?_
    refine zW.pick (lv' := [(0, .ref b), (1, .ref (q 0)), (2, .ref (p 0)), (3, .ref qo), (4, .int (nI i))]) [2, 3, 4, 5, 6] rfl ?_
    refine zW.wid (k := c + 8) (n := s + 64) (by omega) (by omega) ?_
    exact kk a2 _ hi2 ⟨_, _, _, _, _, _, _, _, _, _, rfl, hs2, hz2⟩
set_option maxRecDepth 100000 in
set_option maxHeartbeats 4000000 in
theorem s_count (l : Launch) (hl9 : l.stackTraces = false) (g : zG) (E : zEnv) (Q : State → Prop) (C : zC g E cL_law RL wsL_law 9 (some .boolean)) (F : zFx (zA E) (zs E) (zs E).heap) {b L : Nat} {xs : Nat → Int32} (S : zSc E b L xs) (q p : Nat → Nat) (qo : Nat) (a : zS) (hi : zInv a) (i : Nat) (hiL : i + 4 ≤ L) {c s : Nat} (hc : c + 8 ≤ 601024) (hs : s + 64 ≤ 7293034) (W0 : va_W) (hW : zLd g q p qo a W0) (kk : ∀ (a' : zS) (W' : va_W), zInv a' → zLd g q p qo a' W' → zW g l room_1 E Q 9 (c + 8) (s + 64) W' [(0, .ref b), (1, .ref (q 0)), (2, .ref (p 0)), (3, .ref qo), (4, .int (nI i))] [] 1187) : zW g l room_1 E Q 9 c s W0 [(0, .ref b), (1, .ref (q 0)), (2, .ref (p 0)), (3, .ref qo), (4, .int (nI i))] [] 859 := by
  obtain ⟨bs, wb, pd, gw, fo, th, la, pe, ga, sz, rfl, hs9, h0⟩ := hW
  have hLs := S.2.2.2
  refine zW.eqw (ws2 := (wB g q a (zG0 a) bs wb pd gw ++ [(qo, .inl (zJ g, 1, .inr (.inl fo)))]) ++ wM g p th a la pe ga sz) rfl ?_
  refine z_aload_n C dL_law_859 1 rfl ?_
  refine z_aload_n C dL_law_860 0 rfl ?_
  refine z_iload C dL_law_861 4 rfl ?_
  refine z_iconst C (nI 1) dL_law_863 (by decide) ?_
  refine z_iadd C dL_law_864 (v := nI (i + 1)) (nI_add i 1) ?_
  refine z_sld C S (j := i + 1) (by omega) dL_law_865 ?_
  refine z_aload_n C dL_law_866 3 rfl ?_
  obtain ⟨k, v, a2, h, hk, hi2⟩ := sp_count_ex hi (xs (i + 1))
  refine z_callSW (mc := 1) (ms := 6) C F (zMH.fr (w_count l g q a bs wb pd gw qo fo hl9 hi hs9 (xs (i + 1)) h) [] (wM g p th a la pe ga sz)) (vx_cwSW 3 C.ts gL_law_L_count rfl rfl rfl (by decide +kernel) ⟨Nat.le_of_ble_eq_true rfl, Nat.le_of_ble_eq_true rfl⟩) rfl rfl (Nat.le_of_ble_eq_true rfl) dL_law_867 ⟨Nat.le_trans (m := c + 8) (by omega) hc, Nat.le_trans (m := s + 64) (by omega) hs⟩ ?_
  rintro _ _ ⟨_, ⟨rfl, _, fo2, ⟨bs2, wb2, pd2, gw2, rfl, hs2⟩, hv2, rfl⟩, rfl⟩
  refine zW.eqw (ws2 := (wB g q a2 (zG0 a2) bs2 wb2 pd2 gw2 ++ [(qo, .inl (zJ g, 1, .inr (.inl fo2)))]) ++ wM g p th a la pe ga sz) rfl ?_
  refine z_istore C dL_law_870 (by decide) [(5, .int (nI k)), (0, .ref b), (1, .ref (q 0)), (2, .ref (p 0)), (3, .ref qo), (4, .int (nI i))] rfl ?_
  refine z_aload_n C dL_law_872 3 rfl ?_
  refine z_aload_n C dL_law_873 1 rfl ?_
  refine z_iload C dL_law_874 5 rfl ?_
  refine z_iconst C (nI 1) dL_law_876 (by decide) ?_
  refine z_iadd C dL_law_877 (v := nI (i + 1)) (nI_add i 1) ?_
  refine z_sld C S (j := i + 1) (by omega) dL_law_878 ?_
  refine z_callV (mc := 0) (ms := 0) C (zM.fr (m_count l g p th a la pe ga sz hi h0 (xs (i + 1)) h) (wB g q a2 (zG0 a2) bs2 wb2 pd2 gw2 ++ [(qo, .inl (zJ g, 1, .inr (.inl fo2)))]) []) (cwV 1 C.ts gL_law_X3_count rfl rfl rfl (by decide +kernel) ⟨Nat.le_of_ble_eq_true rfl, Nat.le_of_ble_eq_true rfl⟩) zL_m rfl rfl rfl (Nat.le_of_ble_eq_true rfl) dL_law_879 ⟨Nat.le_trans (m := c + 8) (by omega) hc, Nat.le_trans (m := s + 64) (by omega) hs⟩ ?_
  rintro _ _ ⟨_, ⟨v2, rfl, hv3, la2, pe2, ga2, sz2, rfl, hz2⟩, rfl⟩
  refine zW.eqw (ws2 := (wB g q a2 (zG0 a2) bs2 wb2 pd2 gw2 ++ [(qo, .inl (zJ g, 1, .inr (.inl fo2)))]) ++ wM g p (k : Int) a2 la2 pe2 ga2 sz2) rfl ?_
  refine z_istore C dL_law_882 (by decide) [(6, .int v2), (5, .int (nI k)), (0, .ref b), (1, .ref (q 0)), (2, .ref (p 0)), (3, .ref qo), (4, .int (nI i))] rfl ?_
  refine z_aload_n C dL_law_884 4 rfl ?_
  refine z_callV (mc := 0) (ms := 0) C (zM.fr (c_X3_thrown l g p (k : Int) a2 la2 pe2 ga2 sz2) (wB g q a2 (zG0 a2) bs2 wb2 pd2 gw2 ++ [(qo, .inl (zJ g, 1, .inr (.inl fo2)))]) []) (cwV 0 C.ts gL_law_X3_thrown rfl rfl rfl (by decide +kernel) ⟨Nat.le_of_ble_eq_true rfl, Nat.le_of_ble_eq_true rfl⟩) zL_m rfl rfl rfl (Nat.le_of_ble_eq_true rfl) dL_law_885 ⟨Nat.le_trans (m := c + 8) (by omega) hc, Nat.le_trans (m := s + 64) (by omega) hs⟩ ?_
  rintro _ _ ⟨_, ⟨rfl, rfl⟩, rfl⟩
  refine zW.eqw (ws2 := (wB g q a2 (zG0 a2) bs2 wb2 pd2 gw2 ++ [(qo, .inl (zJ g, 1, .inr (.inl fo2)))]) ++ wM g p (k : Int) a2 la2 pe2 ga2 sz2) rfl ?_
  refine zW.top (y := nI k) rfl ?_
  refine z_iload C dL_law_888 1 rfl ?_
  refine z_icmp_eq C 895 dL_law_890 (by decide) (zeq_NN (by omega) (by omega)) (fun c_890 => ?_) (fun h9 => absurd rfl h9)
  refine z_iload C dL_law_895 1 rfl ?_
  refine z_if_ne C 912 dL_law_897 (by decide) (zeq_N0 (by omega)) (fun c_897 => ?_) (fun c_897 => ?_)
  · skip
    refine z_goto C 1187 dL_law_912 (by decide) ?_
    refine zW.pick (lv' := [(0, .ref b), (1, .ref (q 0)), (2, .ref (p 0)), (3, .ref qo), (4, .int (nI i))]) [2, 3, 4, 5, 6] rfl ?_
    refine zW.wid (k := c + 8) (n := s + 64) (by omega) (by omega) ?_
    exact kk a2 _ hi2 ⟨_, _, _, _, _, _, _, _, _, _, rfl, hs2, hz2⟩
  · skip
    refine z_aload_n C dL_law_900 5 rfl ?_
    refine z_iconst C (nI 0) dL_law_901 (by decide) ?_
    refine z_laldN C 20 rfl (by omega) (by decide) dL_law_902 (v := fo2 0) rfl ?_
    refine z_iload C dL_law_903 0 rfl ?_
    refine z_i2l C dL_law_905 (v := (v2).toInt64) rfl ?_
    refine z_lcmp C dL_law_906 (v := lg_cmp (fo2 0) ((v2).toInt64)) rfl ?_
    refine z_if_eq C 912 dL_law_907 (by decide) Iff.rfl (fun c_907 => ?_) (fun h9 => absurd (by rw [hv2 c_897, hv3 c_897]; exact lg_self _) h9)
    refine z_goto C 1187 dL_law_912 (by decide) ?_
    refine zW.pick (lv' := [(0, .ref b), (1, .ref (q 0)), (2, .ref (p 0)), (3, .ref qo), (4, .int (nI i))]) [2, 3, 4, 5, 6] rfl ?_
    refine zW.wid (k := c + 8) (n := s + 64) (by omega) (by omega) ?_
    exact kk a2 _ hi2 ⟨_, _, _, _, _, _, _, _, _, _, rfl, hs2, hz2⟩
set_option maxRecDepth 100000 in
set_option maxHeartbeats 4000000 in
theorem s_alone (l : Launch) (hl9 : l.stackTraces = false) (g : zG) (E : zEnv) (Q : State → Prop) (C : zC g E cL_law RL wsL_law 9 (some .boolean)) (F : zFx (zA E) (zs E) (zs E).heap) {b L : Nat} {xs : Nat → Int32} (S : zSc E b L xs) (q p : Nat → Nat) (qo : Nat) (a : zS) (hi : zInv a) (i : Nat) (hiL : i + 4 ≤ L) {c s : Nat} (hc : c + 8 ≤ 601024) (hs : s + 64 ≤ 7293034) (W0 : va_W) (hW : zLd g q p qo a W0) (kk : ∀ (a' : zS) (W' : va_W), zInv a' → zLd g q p qo a' W' → zW g l room_1 E Q 9 (c + 8) (s + 64) W' [(0, .ref b), (1, .ref (q 0)), (2, .ref (p 0)), (3, .ref qo), (4, .int (nI i))] [] 1187) : zW g l room_1 E Q 9 c s W0 [(0, .ref b), (1, .ref (q 0)), (2, .ref (p 0)), (3, .ref qo), (4, .int (nI i))] [] 915 := by
  obtain ⟨bs, wb, pd, gw, fo, th, la, pe, ga, sz, rfl, hs9, h0⟩ := hW
  have hLs := S.2.2.2
  refine zW.eqw (ws2 := (wB g q a (zG0 a) bs wb pd gw ++ [(qo, .inl (zJ g, 1, .inr (.inl fo)))]) ++ wM g p th a la pe ga sz) rfl ?_
  refine z_aload_n C dL_law_915 1 rfl ?_
  refine z_aload_n C dL_law_916 0 rfl ?_
  refine z_iload C dL_law_917 4 rfl ?_
  refine z_iconst C (nI 1) dL_law_919 (by decide) ?_
  refine z_iadd C dL_law_920 (v := nI (i + 1)) (nI_add i 1) ?_
  refine z_sld C S (j := i + 1) (by omega) dL_law_921 ?_
  refine z_aload_n C dL_law_922 0 rfl ?_
  refine z_iload C dL_law_923 4 rfl ?_
  refine z_iconst C (nI 2) dL_law_925 (by decide) ?_
  refine z_iadd C dL_law_926 (v := nI (i + 2)) (nI_add i 2) ?_
  refine z_sld C S (j := i + 2) (by omega) dL_law_927 ?_
  refine z_aload_n C dL_law_928 3 rfl ?_
  obtain ⟨k, v, a2, h, hk, hi2⟩ := sp_alone_ex hi (xs (i + 1)) (xs (i + 2))
  refine z_callSW (mc := 1) (ms := 6) C F (zMH.fr (w_alone l g q a bs wb pd gw qo fo hl9 hi hs9 (xs (i + 1)) (xs (i + 2)) h) [] (wM g p th a la pe ga sz)) (vx_cwSW 4 C.ts gL_law_L_alone rfl rfl rfl (by decide +kernel) ⟨Nat.le_of_ble_eq_true rfl, Nat.le_of_ble_eq_true rfl⟩) rfl rfl (Nat.le_of_ble_eq_true rfl) dL_law_929 ⟨Nat.le_trans (m := c + 8) (by omega) hc, Nat.le_trans (m := s + 64) (by omega) hs⟩ ?_
  rintro _ _ ⟨_, ⟨rfl, _, fo2, ⟨bs2, wb2, pd2, gw2, rfl, hs2⟩, hv2, rfl⟩, rfl⟩
  refine zW.eqw (ws2 := (wB g q a2 (zG0 a2) bs2 wb2 pd2 gw2 ++ [(qo, .inl (zJ g, 1, .inr (.inl fo2)))]) ++ wM g p th a la pe ga sz) rfl ?_
  refine z_istore C dL_law_932 (by decide) [(5, .int (nI k)), (0, .ref b), (1, .ref (q 0)), (2, .ref (p 0)), (3, .ref qo), (4, .int (nI i))] rfl ?_
  refine z_aload_n C dL_law_934 3 rfl ?_
  refine z_aload_n C dL_law_935 1 rfl ?_
  refine z_iload C dL_law_936 5 rfl ?_
  refine z_iconst C (nI 1) dL_law_938 (by decide) ?_
  refine z_iadd C dL_law_939 (v := nI (i + 1)) (nI_add i 1) ?_
  refine z_sld C S (j := i + 1) (by omega) dL_law_940 ?_
  refine z_aload_n C dL_law_941 1 rfl ?_
  refine z_iload C dL_law_942 5 rfl ?_
  refine z_iconst C (nI 2) dL_law_944 (by decide) ?_
  refine z_iadd C dL_law_945 (v := nI (i + 2)) (nI_add i 2) ?_
  refine z_sld C S (j := i + 2) (by omega) dL_law_946 ?_
  refine z_callV (mc := 0) (ms := 0) C (zM.fr (m_alone l g p th a la pe ga sz hi h0 (xs (i + 1)) (xs (i + 2)) h) (wB g q a2 (zG0 a2) bs2 wb2 pd2 gw2 ++ [(qo, .inl (zJ g, 1, .inr (.inl fo2)))]) []) (cwV 2 C.ts gL_law_X3_alone rfl rfl rfl (by decide +kernel) ⟨Nat.le_of_ble_eq_true rfl, Nat.le_of_ble_eq_true rfl⟩) zL_m rfl rfl rfl (Nat.le_of_ble_eq_true rfl) dL_law_947 ⟨Nat.le_trans (m := c + 8) (by omega) hc, Nat.le_trans (m := s + 64) (by omega) hs⟩ ?_
  rintro _ _ ⟨_, ⟨v2, rfl, hv3, la2, pe2, ga2, sz2, rfl, hz2⟩, rfl⟩
  refine zW.eqw (ws2 := (wB g q a2 (zG0 a2) bs2 wb2 pd2 gw2 ++ [(qo, .inl (zJ g, 1, .inr (.inl fo2)))]) ++ wM g p (k : Int) a2 la2 pe2 ga2 sz2) rfl ?_
  refine z_istore C dL_law_950 (by decide) [(6, .int v2), (5, .int (nI k)), (0, .ref b), (1, .ref (q 0)), (2, .ref (p 0)), (3, .ref qo), (4, .int (nI i))] rfl ?_
  refine z_aload_n C dL_law_952 4 rfl ?_
  refine z_callV (mc := 0) (ms := 0) C (zM.fr (c_X3_thrown l g p (k : Int) a2 la2 pe2 ga2 sz2) (wB g q a2 (zG0 a2) bs2 wb2 pd2 gw2 ++ [(qo, .inl (zJ g, 1, .inr (.inl fo2)))]) []) (cwV 0 C.ts gL_law_X3_thrown rfl rfl rfl (by decide +kernel) ⟨Nat.le_of_ble_eq_true rfl, Nat.le_of_ble_eq_true rfl⟩) zL_m rfl rfl rfl (Nat.le_of_ble_eq_true rfl) dL_law_953 ⟨Nat.le_trans (m := c + 8) (by omega) hc, Nat.le_trans (m := s + 64) (by omega) hs⟩ ?_
  rintro _ _ ⟨_, ⟨rfl, rfl⟩, rfl⟩
  refine zW.eqw (ws2 := (wB g q a2 (zG0 a2) bs2 wb2 pd2 gw2 ++ [(qo, .inl (zJ g, 1, .inr (.inl fo2)))]) ++ wM g p (k : Int) a2 la2 pe2 ga2 sz2) rfl ?_
  refine zW.top (y := nI k) rfl ?_
  refine z_iload C dL_law_956 1 rfl ?_
  refine z_icmp_eq C 963 dL_law_958 (by decide) (zeq_NN (by omega) (by omega)) (fun c_958 => ?_) (fun h9 => absurd rfl h9)
  refine z_iload C dL_law_963 1 rfl ?_
  refine z_if_ne C 980 dL_law_965 (by decide) (zeq_N0 (by omega)) (fun c_965 => ?_) (fun c_965 => ?_)
  · skip
    refine z_goto C 1187 dL_law_980 (by decide) ?_
    refine zW.pick (lv' := [(0, .ref b), (1, .ref (q 0)), (2, .ref (p 0)), (3, .ref qo), (4, .int (nI i))]) [2, 3, 4, 5, 6] rfl ?_
    refine zW.wid (k := c + 8) (n := s + 64) (by omega) (by omega) ?_
    exact kk a2 _ hi2 ⟨_, _, _, _, _, _, _, _, _, _, rfl, hs2, hz2⟩
  · skip
    refine z_aload_n C dL_law_968 5 rfl ?_
    refine z_iconst C (nI 0) dL_law_969 (by decide) ?_
    refine z_laldN C 20 rfl (by omega) (by decide) dL_law_970 (v := fo2 0) rfl ?_
    refine z_iload C dL_law_971 0 rfl ?_
    refine z_i2l C dL_law_973 (v := (v2).toInt64) rfl ?_
    refine z_lcmp C dL_law_974 (v := lg_cmp (fo2 0) ((v2).toInt64)) rfl ?_
    refine z_if_eq C 980 dL_law_975 (by decide) Iff.rfl (fun c_975 => ?_) (fun h9 => absurd (by rw [hv2 c_965, hv3 c_965]; exact lg_self _) h9)
    refine z_goto C 1187 dL_law_980 (by decide) ?_
    refine zW.pick (lv' := [(0, .ref b), (1, .ref (q 0)), (2, .ref (p 0)), (3, .ref qo), (4, .int (nI i))]) [2, 3, 4, 5, 6] rfl ?_
    refine zW.wid (k := c + 8) (n := s + 64) (by omega) (by omega) ?_
    exact kk a2 _ hi2 ⟨_, _, _, _, _, _, _, _, _, _, rfl, hs2, hz2⟩
set_option maxRecDepth 100000 in
set_option maxHeartbeats 4000000 in
theorem s_would (l : Launch) (hl9 : l.stackTraces = false) (g : zG) (E : zEnv) (Q : State → Prop) (C : zC g E cL_law RL wsL_law 9 (some .boolean)) (F : zFx (zA E) (zs E) (zs E).heap) {b L : Nat} {xs : Nat → Int32} (S : zSc E b L xs) (q p : Nat → Nat) (qo : Nat) (a : zS) (hi : zInv a) (i : Nat) (hiL : i + 4 ≤ L) {c s : Nat} (hc : c + 8 ≤ 601024) (hs : s + 64 ≤ 7293034) (W0 : va_W) (hW : zLd g q p qo a W0) (kk : ∀ (a' : zS) (W' : va_W), zInv a' → zLd g q p qo a' W' → zW g l room_1 E Q 9 (c + 8) (s + 64) W' [(0, .ref b), (1, .ref (q 0)), (2, .ref (p 0)), (3, .ref qo), (4, .int (nI i))] [] 1187) : zW g l room_1 E Q 9 c s W0 [(0, .ref b), (1, .ref (q 0)), (2, .ref (p 0)), (3, .ref qo), (4, .int (nI i))] [] 983 := by
  obtain ⟨bs, wb, pd, gw, fo, th, la, pe, ga, sz, rfl, hs9, h0⟩ := hW
  have hLs := S.2.2.2
  refine zW.eqw (ws2 := (wB g q a (zG0 a) bs wb pd gw ++ [(qo, .inl (zJ g, 1, .inr (.inl fo)))]) ++ wM g p th a la pe ga sz) rfl ?_
  refine z_aload_n C dL_law_983 1 rfl ?_
  refine z_aload_n C dL_law_984 0 rfl ?_
  refine z_iload C dL_law_985 4 rfl ?_
  refine z_iconst C (nI 1) dL_law_987 (by decide) ?_
  refine z_iadd C dL_law_988 (v := nI (i + 1)) (nI_add i 1) ?_
  refine z_sld C S (j := i + 1) (by omega) dL_law_989 ?_
  refine z_aload_n C dL_law_990 0 rfl ?_
  refine z_iload C dL_law_991 4 rfl ?_
  refine z_iconst C (nI 2) dL_law_993 (by decide) ?_
  refine z_iadd C dL_law_994 (v := nI (i + 2)) (nI_add i 2) ?_
  refine z_sld C S (j := i + 2) (by omega) dL_law_995 ?_
  refine z_aload_n C dL_law_996 0 rfl ?_
  refine z_iload C dL_law_997 4 rfl ?_
  refine z_iconst C (nI 3) dL_law_999 (by decide) ?_
  refine z_iadd C dL_law_1000 (v := nI (i + 3)) (nI_add i 3) ?_
  refine z_sld C S (j := i + 3) (by omega) dL_law_1001 ?_
  refine z_aload_n C dL_law_1002 3 rfl ?_
  obtain ⟨k, v, a2, h, hk, hi2⟩ := sp_would_ex hi (xs (i + 1)) (xs (i + 2)) (xs (i + 3))
  refine z_callSW (mc := 1) (ms := 6) C F (zMH.fr (w_would l g q a bs wb pd gw qo fo hl9 hi hs9 (xs (i + 1)) (xs (i + 2)) (xs (i + 3)) h) [] (wM g p th a la pe ga sz)) (vx_cwSW 5 C.ts gL_law_L_would rfl rfl rfl (by decide +kernel) ⟨Nat.le_of_ble_eq_true rfl, Nat.le_of_ble_eq_true rfl⟩) rfl rfl (Nat.le_of_ble_eq_true rfl) dL_law_1003 ⟨Nat.le_trans (m := c + 8) (by omega) hc, Nat.le_trans (m := s + 64) (by omega) hs⟩ ?_
  rintro _ _ ⟨_, ⟨rfl, _, fo2, ⟨bs2, wb2, pd2, gw2, rfl, hs2⟩, hv2, rfl⟩, rfl⟩
  refine zW.eqw (ws2 := (wB g q a2 (zG0 a2) bs2 wb2 pd2 gw2 ++ [(qo, .inl (zJ g, 1, .inr (.inl fo2)))]) ++ wM g p th a la pe ga sz) rfl ?_
  refine z_istore C dL_law_1006 (by decide) [(5, .int (nI k)), (0, .ref b), (1, .ref (q 0)), (2, .ref (p 0)), (3, .ref qo), (4, .int (nI i))] rfl ?_
  refine z_aload_n C dL_law_1008 3 rfl ?_
  refine z_aload_n C dL_law_1009 1 rfl ?_
  refine z_iload C dL_law_1010 5 rfl ?_
  refine z_iconst C (nI 1) dL_law_1012 (by decide) ?_
  refine z_iadd C dL_law_1013 (v := nI (i + 1)) (nI_add i 1) ?_
  refine z_sld C S (j := i + 1) (by omega) dL_law_1014 ?_
  refine z_aload_n C dL_law_1015 1 rfl ?_
  refine z_iload C dL_law_1016 5 rfl ?_
  refine z_iconst C (nI 2) dL_law_1018 (by decide) ?_
  refine z_iadd C dL_law_1019 (v := nI (i + 2)) (nI_add i 2) ?_
  refine z_sld C S (j := i + 2) (by omega) dL_law_1020 ?_
  refine z_aload_n C dL_law_1021 1 rfl ?_
  refine z_iload C dL_law_1022 5 rfl ?_
  refine z_iconst C (nI 3) dL_law_1024 (by decide) ?_
  refine z_iadd C dL_law_1025 (v := nI (i + 3)) (nI_add i 3) ?_
  refine z_sld C S (j := i + 3) (by omega) dL_law_1026 ?_
  refine z_callV (mc := 0) (ms := 0) C (zM.fr (m_would l g p th a la pe ga sz hi h0 (xs (i + 1)) (xs (i + 2)) (xs (i + 3)) h) (wB g q a2 (zG0 a2) bs2 wb2 pd2 gw2 ++ [(qo, .inl (zJ g, 1, .inr (.inl fo2)))]) []) (cwV 3 C.ts gL_law_X3_would rfl rfl rfl (by decide +kernel) ⟨Nat.le_of_ble_eq_true rfl, Nat.le_of_ble_eq_true rfl⟩) zL_m rfl rfl rfl (Nat.le_of_ble_eq_true rfl) dL_law_1027 ⟨Nat.le_trans (m := c + 8) (by omega) hc, Nat.le_trans (m := s + 64) (by omega) hs⟩ ?_
  rintro _ _ ⟨_, ⟨v2, rfl, hv3, la2, pe2, ga2, sz2, rfl, hz2⟩, rfl⟩
  refine zW.eqw (ws2 := (wB g q a2 (zG0 a2) bs2 wb2 pd2 gw2 ++ [(qo, .inl (zJ g, 1, .inr (.inl fo2)))]) ++ wM g p (k : Int) a2 la2 pe2 ga2 sz2) rfl ?_
  refine z_istore C dL_law_1030 (by decide) [(6, .int v2), (5, .int (nI k)), (0, .ref b), (1, .ref (q 0)), (2, .ref (p 0)), (3, .ref qo), (4, .int (nI i))] rfl ?_
  refine z_aload_n C dL_law_1032 4 rfl ?_
  refine z_callV (mc := 0) (ms := 0) C (zM.fr (c_X3_thrown l g p (k : Int) a2 la2 pe2 ga2 sz2) (wB g q a2 (zG0 a2) bs2 wb2 pd2 gw2 ++ [(qo, .inl (zJ g, 1, .inr (.inl fo2)))]) []) (cwV 0 C.ts gL_law_X3_thrown rfl rfl rfl (by decide +kernel) ⟨Nat.le_of_ble_eq_true rfl, Nat.le_of_ble_eq_true rfl⟩) zL_m rfl rfl rfl (Nat.le_of_ble_eq_true rfl) dL_law_1033 ⟨Nat.le_trans (m := c + 8) (by omega) hc, Nat.le_trans (m := s + 64) (by omega) hs⟩ ?_
  rintro _ _ ⟨_, ⟨rfl, rfl⟩, rfl⟩
  refine zW.eqw (ws2 := (wB g q a2 (zG0 a2) bs2 wb2 pd2 gw2 ++ [(qo, .inl (zJ g, 1, .inr (.inl fo2)))]) ++ wM g p (k : Int) a2 la2 pe2 ga2 sz2) rfl ?_
  refine zW.top (y := nI k) rfl ?_
  refine z_iload C dL_law_1036 1 rfl ?_
  refine z_icmp_eq C 1043 dL_law_1038 (by decide) (zeq_NN (by omega) (by omega)) (fun c_1038 => ?_) (fun h9 => absurd rfl h9)
  refine z_iload C dL_law_1043 1 rfl ?_
  refine z_if_ne C 1060 dL_law_1045 (by decide) (zeq_N0 (by omega)) (fun c_1045 => ?_) (fun c_1045 => ?_)
  · skip
    refine z_goto C 1187 dL_law_1060 (by decide) ?_
    refine zW.pick (lv' := [(0, .ref b), (1, .ref (q 0)), (2, .ref (p 0)), (3, .ref qo), (4, .int (nI i))]) [2, 3, 4, 5, 6] rfl ?_
    refine zW.wid (k := c + 8) (n := s + 64) (by omega) (by omega) ?_
    exact kk a2 _ hi2 ⟨_, _, _, _, _, _, _, _, _, _, rfl, hs2, hz2⟩
  · skip
    refine z_aload_n C dL_law_1048 5 rfl ?_
    refine z_iconst C (nI 0) dL_law_1049 (by decide) ?_
    refine z_laldN C 20 rfl (by omega) (by decide) dL_law_1050 (v := fo2 0) rfl ?_
    refine z_iload C dL_law_1051 0 rfl ?_
    refine z_i2l C dL_law_1053 (v := (v2).toInt64) rfl ?_
    refine z_lcmp C dL_law_1054 (v := lg_cmp (fo2 0) ((v2).toInt64)) rfl ?_
    refine z_if_eq C 1060 dL_law_1055 (by decide) Iff.rfl (fun c_1055 => ?_) (fun h9 => absurd (by rw [hv2 c_1045, hv3 c_1045]; exact lg_self _) h9)
    refine z_goto C 1187 dL_law_1060 (by decide) ?_
    refine zW.pick (lv' := [(0, .ref b), (1, .ref (q 0)), (2, .ref (p 0)), (3, .ref qo), (4, .int (nI i))]) [2, 3, 4, 5, 6] rfl ?_
    refine zW.wid (k := c + 8) (n := s + 64) (by omega) (by omega) ?_
    exact kk a2 _ hi2 ⟨_, _, _, _, _, _, _, _, _, _, rfl, hs2, hz2⟩
set_option maxRecDepth 100000 in
set_option maxHeartbeats 4000000 in
theorem s_least (l : Launch) (hl9 : l.stackTraces = false) (g : zG) (E : zEnv) (Q : State → Prop) (C : zC g E cL_law RL wsL_law 9 (some .boolean)) (F : zFx (zA E) (zs E) (zs E).heap) {b L : Nat} {xs : Nat → Int32} (S : zSc E b L xs) (q p : Nat → Nat) (qo : Nat) (a : zS) (hi : zInv a) (i : Nat) (hiL : i + 4 ≤ L) {c s : Nat} (hc : c + 8 ≤ 601024) (hs : s + 64 ≤ 7293034) (W0 : va_W) (hW : zLd g q p qo a W0) (kk : ∀ (a' : zS) (W' : va_W), zInv a' → zLd g q p qo a' W' → zW g l room_1 E Q 9 (c + 8) (s + 64) W' [(0, .ref b), (1, .ref (q 0)), (2, .ref (p 0)), (3, .ref qo), (4, .int (nI i))] [] 1187) : zW g l room_1 E Q 9 c s W0 [(0, .ref b), (1, .ref (q 0)), (2, .ref (p 0)), (3, .ref qo), (4, .int (nI i))] [] 1063 := by
  obtain ⟨bs, wb, pd, gw, fo, th, la, pe, ga, sz, rfl, hs9, h0⟩ := hW
  have hLs := S.2.2.2
  refine zW.eqw (ws2 := (wB g q a (zG0 a) bs wb pd gw ++ [(qo, .inl (zJ g, 1, .inr (.inl fo)))]) ++ wM g p th a la pe ga sz) rfl ?_
  refine z_aload_n C dL_law_1063 1 rfl ?_
  refine z_aload_n C dL_law_1064 0 rfl ?_
  refine z_iload C dL_law_1065 4 rfl ?_
  refine z_iconst C (nI 1) dL_law_1067 (by decide) ?_
  refine z_iadd C dL_law_1068 (v := nI (i + 1)) (nI_add i 1) ?_
  refine z_sld C S (j := i + 1) (by omega) dL_law_1069 ?_
  refine z_aload_n C dL_law_1070 3 rfl ?_
  obtain ⟨k, v, a2, h, hk, hi2⟩ := sp_least_ex hi (xs (i + 1))
  refine z_callSW (mc := 1) (ms := 6) C F (zMH.fr (w_least l g q a bs wb pd gw qo fo hl9 hi hs9 (xs (i + 1)) h) [] (wM g p th a la pe ga sz)) (vx_cwSW 3 C.ts gL_law_L_least rfl rfl rfl (by decide +kernel) ⟨Nat.le_of_ble_eq_true rfl, Nat.le_of_ble_eq_true rfl⟩) rfl rfl (Nat.le_of_ble_eq_true rfl) dL_law_1071 ⟨Nat.le_trans (m := c + 8) (by omega) hc, Nat.le_trans (m := s + 64) (by omega) hs⟩ ?_
  rintro _ _ ⟨_, ⟨rfl, _, fo2, ⟨bs2, wb2, pd2, gw2, rfl, hs2⟩, hv2, rfl⟩, rfl⟩
  refine zW.eqw (ws2 := (wB g q a2 (zG0 a2) bs2 wb2 pd2 gw2 ++ [(qo, .inl (zJ g, 1, .inr (.inl fo2)))]) ++ wM g p th a la pe ga sz) rfl ?_
  refine z_istore C dL_law_1074 (by decide) [(5, .int (nI k)), (0, .ref b), (1, .ref (q 0)), (2, .ref (p 0)), (3, .ref qo), (4, .int (nI i))] rfl ?_
  refine z_aload_n C dL_law_1076 3 rfl ?_
  refine z_aload_n C dL_law_1077 1 rfl ?_
  refine z_iload C dL_law_1078 5 rfl ?_
  refine z_iconst C (nI 1) dL_law_1080 (by decide) ?_
  refine z_iadd C dL_law_1081 (v := nI (i + 1)) (nI_add i 1) ?_
  refine z_sld C S (j := i + 1) (by omega) dL_law_1082 ?_
  refine z_callV (mc := 0) (ms := 0) C (zM.fr (m_least l g p th a la pe ga sz hi h0 (xs (i + 1)) h) (wB g q a2 (zG0 a2) bs2 wb2 pd2 gw2 ++ [(qo, .inl (zJ g, 1, .inr (.inl fo2)))]) []) (cwV 1 C.ts gL_law_X3_least rfl rfl rfl (by decide +kernel) ⟨Nat.le_of_ble_eq_true rfl, Nat.le_of_ble_eq_true rfl⟩) zL_m rfl rfl rfl (Nat.le_of_ble_eq_true rfl) dL_law_1083 ⟨Nat.le_trans (m := c + 8) (by omega) hc, Nat.le_trans (m := s + 64) (by omega) hs⟩ ?_
  rintro _ _ ⟨_, ⟨v2, rfl, hv3, la2, pe2, ga2, sz2, rfl, hz2⟩, rfl⟩
  refine zW.eqw (ws2 := (wB g q a2 (zG0 a2) bs2 wb2 pd2 gw2 ++ [(qo, .inl (zJ g, 1, .inr (.inl fo2)))]) ++ wM g p (k : Int) a2 la2 pe2 ga2 sz2) rfl ?_
  refine z_istore C dL_law_1086 (by decide) [(6, .int v2), (5, .int (nI k)), (0, .ref b), (1, .ref (q 0)), (2, .ref (p 0)), (3, .ref qo), (4, .int (nI i))] rfl ?_
  refine z_aload_n C dL_law_1088 4 rfl ?_
  refine z_callV (mc := 0) (ms := 0) C (zM.fr (c_X3_thrown l g p (k : Int) a2 la2 pe2 ga2 sz2) (wB g q a2 (zG0 a2) bs2 wb2 pd2 gw2 ++ [(qo, .inl (zJ g, 1, .inr (.inl fo2)))]) []) (cwV 0 C.ts gL_law_X3_thrown rfl rfl rfl (by decide +kernel) ⟨Nat.le_of_ble_eq_true rfl, Nat.le_of_ble_eq_true rfl⟩) zL_m rfl rfl rfl (Nat.le_of_ble_eq_true rfl) dL_law_1089 ⟨Nat.le_trans (m := c + 8) (by omega) hc, Nat.le_trans (m := s + 64) (by omega) hs⟩ ?_
  rintro _ _ ⟨_, ⟨rfl, rfl⟩, rfl⟩
  refine zW.eqw (ws2 := (wB g q a2 (zG0 a2) bs2 wb2 pd2 gw2 ++ [(qo, .inl (zJ g, 1, .inr (.inl fo2)))]) ++ wM g p (k : Int) a2 la2 pe2 ga2 sz2) rfl ?_
  refine zW.top (y := nI k) rfl ?_
  refine z_iload C dL_law_1092 1 rfl ?_
  refine z_icmp_eq C 1099 dL_law_1094 (by decide) (zeq_NN (by omega) (by omega)) (fun c_1094 => ?_) (fun h9 => absurd rfl h9)
  refine z_iload C dL_law_1099 1 rfl ?_
  refine z_if_ne C 1116 dL_law_1101 (by decide) (zeq_N0 (by omega)) (fun c_1101 => ?_) (fun c_1101 => ?_)
  · skip
    refine z_goto C 1187 dL_law_1116 (by decide) ?_
    refine zW.pick (lv' := [(0, .ref b), (1, .ref (q 0)), (2, .ref (p 0)), (3, .ref qo), (4, .int (nI i))]) [2, 3, 4, 5, 6] rfl ?_
    refine zW.wid (k := c + 8) (n := s + 64) (by omega) (by omega) ?_
    exact kk a2 _ hi2 ⟨_, _, _, _, _, _, _, _, _, _, rfl, hs2, hz2⟩
  · skip
    refine z_aload_n C dL_law_1104 5 rfl ?_
    refine z_iconst C (nI 0) dL_law_1105 (by decide) ?_
    refine z_laldN C 20 rfl (by omega) (by decide) dL_law_1106 (v := fo2 0) rfl ?_
    refine z_iload C dL_law_1107 0 rfl ?_
    refine z_i2l C dL_law_1109 (v := (v2).toInt64) rfl ?_
    refine z_lcmp C dL_law_1110 (v := lg_cmp (fo2 0) ((v2).toInt64)) rfl ?_
    refine z_if_eq C 1116 dL_law_1111 (by decide) Iff.rfl (fun c_1111 => ?_) (fun h9 => absurd (by rw [hv2 c_1101, hv3 c_1101]; exact lg_self _) h9)
    refine z_goto C 1187 dL_law_1116 (by decide) ?_
    refine zW.pick (lv' := [(0, .ref b), (1, .ref (q 0)), (2, .ref (p 0)), (3, .ref qo), (4, .int (nI i))]) [2, 3, 4, 5, 6] rfl ?_
    refine zW.wid (k := c + 8) (n := s + 64) (by omega) (by omega) ?_
    exact kk a2 _ hi2 ⟨_, _, _, _, _, _, _, _, _, _, rfl, hs2, hz2⟩
set_option maxRecDepth 100000 in
set_option maxHeartbeats 4000000 in
theorem s_rival (l : Launch) (hl9 : l.stackTraces = false) (g : zG) (E : zEnv) (Q : State → Prop) (C : zC g E cL_law RL wsL_law 9 (some .boolean)) (F : zFx (zA E) (zs E) (zs E).heap) {b L : Nat} {xs : Nat → Int32} (S : zSc E b L xs) (q p : Nat → Nat) (qo : Nat) (a : zS) (hi : zInv a) (i : Nat) (hiL : i + 4 ≤ L) {c s : Nat} (hc : c + 8 ≤ 601024) (hs : s + 64 ≤ 7293034) (W0 : va_W) (hW : zLd g q p qo a W0) (kk : ∀ (a' : zS) (W' : va_W), zInv a' → zLd g q p qo a' W' → zW g l room_1 E Q 9 (c + 8) (s + 64) W' [(0, .ref b), (1, .ref (q 0)), (2, .ref (p 0)), (3, .ref qo), (4, .int (nI i))] [] 1187) : zW g l room_1 E Q 9 c s W0 [(0, .ref b), (1, .ref (q 0)), (2, .ref (p 0)), (3, .ref qo), (4, .int (nI i))] [] 1119 := by
  obtain ⟨bs, wb, pd, gw, fo, th, la, pe, ga, sz, rfl, hs9, h0⟩ := hW
  have hLs := S.2.2.2
  refine zW.eqw (ws2 := (wB g q a (zG0 a) bs wb pd gw ++ [(qo, .inl (zJ g, 1, .inr (.inl fo)))]) ++ wM g p th a la pe ga sz) rfl ?_
  refine z_aload_n C dL_law_1119 1 rfl ?_
  refine zW.eqw (List.append_assoc _ _ _) ?_
  refine z_callV (mc := 0) (ms := 0) C (zM.fr (c_X2_rival l g q a bs wb pd gw hi hs9) [] ([(qo, .inl (zJ g, 1, .inr (.inl fo)))] ++ wM g p th a la pe ga sz)) (cwV 0 C.ts gL_law_X2_rival rfl rfl rfl (by decide +kernel) ⟨Nat.le_of_ble_eq_true rfl, Nat.le_of_ble_eq_true rfl⟩) (zapp_l wB_o) rfl rfl rfl (Nat.le_of_ble_eq_true rfl) dL_law_1120 ⟨Nat.le_trans (m := c + 8) (by omega) hc, Nat.le_trans (m := s + 64) (by omega) hs⟩ ?_
  rintro _ _ ⟨_, ⟨rfl, bs2, wb2, pd2, gw2, rfl, hs2⟩, rfl⟩
  refine zW.eqw (ws2 := (wB g q a (zG0 a) bs2 wb2 pd2 gw2 ++ [(qo, .inl (zJ g, 1, .inr (.inl fo)))]) ++ wM g p th a la pe ga sz) rfl ?_
  refine z_aload_n C dL_law_1123 2 rfl ?_
  refine z_callV (mc := 0) (ms := 0) C (zM.fr (c_X3_rival l g p th a la pe ga sz hi.1 h0) (wB g q a (zG0 a) bs2 wb2 pd2 gw2 ++ [(qo, .inl (zJ g, 1, .inr (.inl fo)))]) []) (cwV 0 C.ts gL_law_X3_rival rfl rfl rfl (by decide +kernel) ⟨Nat.le_of_ble_eq_true rfl, Nat.le_of_ble_eq_true rfl⟩) zL_m rfl rfl rfl (Nat.le_of_ble_eq_true rfl) dL_law_1124 ⟨Nat.le_trans (m := c + 8) (by omega) hc, Nat.le_trans (m := s + 64) (by omega) hs⟩ ?_
  rintro _ _ ⟨_, ⟨rfl, la2, pe2, ga2, sz2, rfl, hz2⟩, rfl⟩
  refine zW.eqw (ws2 := (wB g q a (zG0 a) bs2 wb2 pd2 gw2 ++ [(qo, .inl (zJ g, 1, .inr (.inl fo)))]) ++ wM g p 0 a la2 pe2 ga2 sz2) rfl ?_
  refine z_icmp_eq C 1187 dL_law_1127 (by decide) Iff.rfl (fun c_1127 => ?_) (fun h9 => absurd rfl h9)
  refine zW.wid (k := c + 8) (n := s + 64) (by omega) (by omega) ?_
  exact kk a _ hi ⟨_, _, _, _, _, _, _, _, _, _, rfl, hs2, hz2⟩
set_option maxRecDepth 100000 in
set_option maxHeartbeats 4000000 in
theorem s_mean (l : Launch) (hl9 : l.stackTraces = false) (g : zG) (E : zEnv) (Q : State → Prop) (C : zC g E cL_law RL wsL_law 9 (some .boolean)) (F : zFx (zA E) (zs E) (zs E).heap) {b L : Nat} {xs : Nat → Int32} (S : zSc E b L xs) (q p : Nat → Nat) (qo : Nat) (a : zS) (hi : zInv a) (i : Nat) (hiL : i + 4 ≤ L) {c s : Nat} (hc : c + 8 ≤ 601024) (hs : s + 64 ≤ 7293034) (W0 : va_W) (hW : zLd g q p qo a W0) (kk : ∀ (a' : zS) (W' : va_W), zInv a' → zLd g q p qo a' W' → zW g l room_1 E Q 9 (c + 8) (s + 64) W' [(0, .ref b), (1, .ref (q 0)), (2, .ref (p 0)), (3, .ref qo), (4, .int (nI i))] [] 1187) : zW g l room_1 E Q 9 c s W0 [(0, .ref b), (1, .ref (q 0)), (2, .ref (p 0)), (3, .ref qo), (4, .int (nI i))] [] 1132 := by
  obtain ⟨bs, wb, pd, gw, fo, th, la, pe, ga, sz, rfl, hs9, h0⟩ := hW
  have hLs := S.2.2.2
  refine zW.eqw (ws2 := (wB g q a (zG0 a) bs wb pd gw ++ [(qo, .inl (zJ g, 1, .inr (.inl fo)))]) ++ wM g p th a la pe ga sz) rfl ?_
  refine z_aload_n C dL_law_1132 1 rfl ?_
  refine zW.eqw (List.append_assoc _ _ _) ?_
  refine z_callV (mc := 0) (ms := 0) C (zM.fr (c_X2_mean l g q a bs wb pd gw hi.1 hs9) [] ([(qo, .inl (zJ g, 1, .inr (.inl fo)))] ++ wM g p th a la pe ga sz)) (cwV 0 C.ts gL_law_X2_mean rfl rfl rfl (by decide +kernel) ⟨Nat.le_of_ble_eq_true rfl, Nat.le_of_ble_eq_true rfl⟩) (zapp_l wB_o) rfl rfl rfl (Nat.le_of_ble_eq_true rfl) dL_law_1133 ⟨Nat.le_trans (m := c + 8) (by omega) hc, Nat.le_trans (m := s + 64) (by omega) hs⟩ ?_
  rintro _ _ ⟨_, ⟨rfl, rfl⟩, rfl⟩
  refine zW.eqw (ws2 := (wB g q a (zG0 a) bs wb pd gw ++ [(qo, .inl (zJ g, 1, .inr (.inl fo)))]) ++ wM g p th a la pe ga sz) rfl ?_
  refine z_dstore C dL_law_1136 (by decide) [(5, .double (aMean a)), (0, .ref b), (1, .ref (q 0)), (2, .ref (p 0)), (3, .ref qo), (4, .int (nI i))] rfl ?_
  refine z_aload_n C dL_law_1138 3 rfl ?_
  refine z_callV (mc := 0) (ms := 0) C (zM.fr (c_X3_mean l g p th a la pe ga sz hi.1 h0) (wB g q a (zG0 a) bs wb pd gw ++ [(qo, .inl (zJ g, 1, .inr (.inl fo)))]) []) (cwV 0 C.ts gL_law_X3_mean rfl rfl rfl (by decide +kernel) ⟨Nat.le_of_ble_eq_true rfl, Nat.le_of_ble_eq_true rfl⟩) zL_m rfl rfl rfl (Nat.le_of_ble_eq_true rfl) dL_law_1139 ⟨Nat.le_trans (m := c + 8) (by omega) hc, Nat.le_trans (m := s + 64) (by omega) hs⟩ ?_
  rintro _ _ ⟨_, ⟨rfl, la2, pe2, ga2, sz2, rfl, hz2⟩, rfl⟩
  refine zW.eqw (ws2 := (wB g q a (zG0 a) bs wb pd gw ++ [(qo, .inl (zJ g, 1, .inr (.inl fo)))]) ++ wM g p 0 a la2 pe2 ga2 sz2) rfl ?_
  refine z_dstore C dL_law_1142 (by decide) [(7, .double (aMean a)), (5, .double (aMean a)), (0, .ref b), (1, .ref (q 0)), (2, .ref (p 0)), (3, .ref qo), (4, .int (nI i))] rfl ?_
  refine z_dload C dL_law_1144 1 rfl ?_
  refine z_dload C dL_law_1146 0 rfl ?_
  refine z_dcmp C dL_law_1148 (v := (Op.cmpValue (FP.dcmp (aMean a) (aMean a)) .l)) rfl ?_
  refine z_if_eq C 1170 dL_law_1149 (by decide) Iff.rfl (fun c_1149 => ?_) (fun c_1149 => ?_)
  · skip
    refine z_goto C 1187 dL_law_1170 (by decide) ?_
    refine zW.pick (lv' := [(0, .ref b), (1, .ref (q 0)), (2, .ref (p 0)), (3, .ref qo), (4, .int (nI i))]) [2, 3, 4, 5, 6] rfl ?_
    refine zW.wid (k := c + 8) (n := s + 64) (by omega) (by omega) ?_
    exact kk a _ hi ⟨_, _, _, _, _, _, _, _, _, _, rfl, hs9, hz2⟩
  · skip
    refine z_dload C dL_law_1152 1 rfl ?_
    refine z_dload C dL_law_1154 1 rfl ?_
    refine z_dcmp C dL_law_1156 (v := (Op.cmpValue (FP.dcmp (aMean a) (aMean a)) .l)) rfl ?_
    refine z_if_eq C 1168 dL_law_1157 (by decide) Iff.rfl (fun h9 => absurd h9 c_1149) (fun c_1157 => ?_)
    refine z_dload C dL_law_1160 0 rfl ?_
    refine z_dload C dL_law_1162 0 rfl ?_
    refine z_dcmp C dL_law_1164 (v := (Op.cmpValue (FP.dcmp (aMean a) (aMean a)) .l)) rfl ?_
    refine z_if_ne C 1170 dL_law_1165 (by decide) Iff.rfl (fun c_1165 => ?_) (fun h9 => absurd h9 c_1149)
    refine z_goto C 1187 dL_law_1170 (by decide) ?_
    refine zW.pick (lv' := [(0, .ref b), (1, .ref (q 0)), (2, .ref (p 0)), (3, .ref qo), (4, .int (nI i))]) [2, 3, 4, 5, 6] rfl ?_
    refine zW.wid (k := c + 8) (n := s + 64) (by omega) (by omega) ?_
    exact kk a _ hi ⟨_, _, _, _, _, _, _, _, _, _, rfl, hs9, hz2⟩
set_option maxRecDepth 100000 in
set_option maxHeartbeats 4000000 in
theorem s_digest (l : Launch) (hl9 : l.stackTraces = false) (g : zG) (E : zEnv) (Q : State → Prop) (C : zC g E cL_law RL wsL_law 9 (some .boolean)) (F : zFx (zA E) (zs E) (zs E).heap) {b L : Nat} {xs : Nat → Int32} (S : zSc E b L xs) (q p : Nat → Nat) (qo : Nat) (a : zS) (hi : zInv a) (i : Nat) (hiL : i + 4 ≤ L) {c s : Nat} (hc : c + 8 ≤ 601024) (hs : s + 64 ≤ 7293034) (W0 : va_W) (hW : zLd g q p qo a W0) (kk : ∀ (a' : zS) (W' : va_W), zInv a' → zLd g q p qo a' W' → zW g l room_1 E Q 9 (c + 8) (s + 64) W' [(0, .ref b), (1, .ref (q 0)), (2, .ref (p 0)), (3, .ref qo), (4, .int (nI i))] [] 1187) : zW g l room_1 E Q 9 c s W0 [(0, .ref b), (1, .ref (q 0)), (2, .ref (p 0)), (3, .ref qo), (4, .int (nI i))] [] 1173 := by
  obtain ⟨bs, wb, pd, gw, fo, th, la, pe, ga, sz, rfl, hs9, h0⟩ := hW
  have hLs := S.2.2.2
  refine zW.eqw (ws2 := (wB g q a (zG0 a) bs wb pd gw ++ [(qo, .inl (zJ g, 1, .inr (.inl fo)))]) ++ wM g p th a la pe ga sz) rfl ?_
  refine z_aload_n C dL_law_1173 1 rfl ?_
  refine zW.eqw (List.append_assoc _ _ _) ?_
  refine z_callV (mc := 0) (ms := 0) C (zM.fr (c_X2_digest l g q a bs wb pd gw hi.1 hs9) [] ([(qo, .inl (zJ g, 1, .inr (.inl fo)))] ++ wM g p th a la pe ga sz)) (cwV 0 C.ts gL_law_X2_digest rfl rfl rfl (by decide +kernel) ⟨Nat.le_of_ble_eq_true rfl, Nat.le_of_ble_eq_true rfl⟩) (zapp_l wB_o) rfl rfl rfl (Nat.le_of_ble_eq_true rfl) dL_law_1174 ⟨Nat.le_trans (m := c + 8) (by omega) hc, Nat.le_trans (m := s + 64) (by omega) hs⟩ ?_
  rintro _ _ ⟨_, ⟨rfl, rfl⟩, rfl⟩
  refine zW.eqw (ws2 := (wB g q a (zG0 a) bs wb pd gw ++ [(qo, .inl (zJ g, 1, .inr (.inl fo)))]) ++ wM g p th a la pe ga sz) rfl ?_
  refine z_aload_n C dL_law_1177 2 rfl ?_
  refine z_callV (mc := 0) (ms := 0) C (zM.fr (c_X3_digest l g p th a la pe ga sz hi.1 h0) (wB g q a (zG0 a) bs wb pd gw ++ [(qo, .inl (zJ g, 1, .inr (.inl fo)))]) []) (cwV 0 C.ts gL_law_X3_digest rfl rfl rfl (by decide +kernel) ⟨Nat.le_of_ble_eq_true rfl, Nat.le_of_ble_eq_true rfl⟩) zL_m rfl rfl rfl (Nat.le_of_ble_eq_true rfl) dL_law_1178 ⟨Nat.le_trans (m := c + 8) (by omega) hc, Nat.le_trans (m := s + 64) (by omega) hs⟩ ?_
  rintro _ _ ⟨_, ⟨rfl, la2, pe2, ga2, sz2, rfl, hz2⟩, rfl⟩
  refine zW.eqw (ws2 := (wB g q a (zG0 a) bs wb pd gw ++ [(qo, .inl (zJ g, 1, .inr (.inl fo)))]) ++ wM g p 0 a la2 pe2 ga2 sz2) rfl ?_
  refine z_lcmp C dL_law_1181 (v := lg_cmp (aDigest a) (aDigest a)) rfl ?_
  refine z_if_eq C 1187 dL_law_1182 (by decide) Iff.rfl (fun c_1182 => ?_) (fun h9 => absurd (lg_self _) h9)
  refine zW.wid (k := c + 8) (n := s + 64) (by omega) (by omega) ?_
  exact kk a _ hi ⟨_, _, _, _, _, _, _, _, _, _, rfl, hs9, hz2⟩
