set_option maxRecDepth 100000 in
set_option maxHeartbeats 8000000 in
theorem law_chk (l : Launch) (g : zG) (E : zEnv) (Q : State → Prop) (C : zC g E cL_law RL wsL_law 17 (some .boolean)) (q p : Nat → Nat) (a : zS) (bs : Nat → Int × Nat) (wb pd gw : Nat → Nat → Int) (sm : Int × Nat × Nat) (hi9 : zInv a) (hs : zSet a bs wb pd gw 0 0) (b t cn sn : Nat) (hcn : cn + 1 ≤ 689705) (hsn : sn + 5 ≤ 7032353) (kk : zW g l room_1 E Q 17 (cn + 1) (sn + 5) (wB g q a (zG0 a) bs wb pd gw ++ (wS g p a sm)) [(0, .ref b), (1, .ref (q 0)), (2, .ref (p 0)), (3, .int (nI t))] [] 809) : zW g l room_1 E Q 17 cn sn (wB g q a (zG0 a) bs wb pd gw ++ (wS g p a sm)) [(0, .ref b), (1, .ref (q 0)), (2, .ref (p 0)), (3, .int (nI t))] [] 80 := by
  have ha := hi9.1
  obtain ⟨hnf, hnd, hnb, hou, hrs, hbd⟩ := id ha
  have hs0 := zFw_ok ha 0
  obtain ⟨hs1, hs2, hs3⟩ := id hs0
  have hpl := zPop_le (zFw a 0).2 12
  refine z_aload_n C dL_law_80 1 rfl ?_
  refine z_iconst C (nI 2) dL_law_81 (by decide) ?_
  refine z_callV C (zM.fl (c_X2_count l g q a bs wb pd gw ha hs 2 (by omega)) (wS g p a sm)) (cwV 1 C.ts gL_law_X2_count rfl rfl rfl (by decide +kernel) ⟨Nat.le_of_ble_eq_true rfl, Nat.le_of_ble_eq_true rfl⟩) (zapp_l wB_o) rfl rfl rfl (Nat.le_of_ble_eq_true rfl) dL_law_82 ⟨by show (_ : Nat) ≤ 689705; (try dsimp only); omega, by show (_ : Nat) ≤ 7032353; (try dsimp only); omega⟩ ?_
  rintro _ _ ⟨_, ⟨rfl, rfl⟩, rfl⟩
  refine zW.eqst (st2 := [.int (iZ (aCount a 2))]) rfl ?_
  refine zW.top (y := nI (zNb a)) rfl ?_
  refine z_istore C dL_law_85 (by decide) [(5, .int (nI (zNb a))), (0, .ref b), (1, .ref (q 0)), (2, .ref (p 0)), (3, .int (nI t))] rfl ?_
  refine z_aload_n C dL_law_87 2 rfl ?_
  refine z_iconst C (nI 1) dL_law_88 (by decide) ?_
  refine z_callV C (zM.fl (c_X2_count l g q a bs wb pd gw ha hs 1 (by omega)) (wS g p a sm)) (cwV 1 C.ts gL_law_X2_count rfl rfl rfl (by decide +kernel) ⟨Nat.le_of_ble_eq_true rfl, Nat.le_of_ble_eq_true rfl⟩) (zapp_l wB_o) rfl rfl rfl (Nat.le_of_ble_eq_true rfl) dL_law_89 ⟨by show (_ : Nat) ≤ 689705; (try dsimp only); omega, by show (_ : Nat) ≤ 7032353; (try dsimp only); omega⟩ ?_
  rintro _ _ ⟨_, ⟨rfl, rfl⟩, rfl⟩
  refine zW.eqst (st2 := [.int (iZ (aCount a 1))]) rfl ?_
  refine zW.top (y := nI (zNd a)) rfl ?_
  refine z_istore C dL_law_92 (by decide) [(6, .int (nI (zNd a))), (5, .int (nI (zNb a))), (0, .ref b), (1, .ref (q 0)), (2, .ref (p 0)), (3, .int (nI t))] rfl ?_
  refine z_iconst C (nI 0) dL_law_94 (by decide) ?_
  refine z_istore C dL_law_95 (by decide) [(7, .int (nI 0)), (6, .int (nI (zNd a))), (5, .int (nI (zNb a))), (0, .ref b), (1, .ref (q 0)), (2, .ref (p 0)), (3, .int (nI t))] rfl ?_
  refine z_iconst C (nI 0) dL_law_97 (by decide) ?_
  refine z_istore C dL_law_98 (by decide) [(8, .int (nI 0)), (7, .int (nI 0)), (6, .int (nI (zNd a))), (5, .int (nI (zNb a))), (0, .ref b), (1, .ref (q 0)), (2, .ref (p 0)), (3, .int (nI t))] rfl ?_
  refine z_iconst C (nI 0) dL_law_100 (by decide) ?_
  refine z_istore C dL_law_101 (by decide) [(9, .int (nI 0)), (8, .int (nI 0)), (7, .int (nI 0)), (6, .int (nI (zNd a))), (5, .int (nI (zNb a))), (0, .ref b), (1, .ref (q 0)), (2, .ref (p 0)), (3, .int (nI t))] rfl ?_
  refine z_iconst C (nI 0) dL_law_103 (by decide) ?_
  refine z_istore C dL_law_104 (by decide) [(10, .int (nI 0)), (9, .int (nI 0)), (8, .int (nI 0)), (7, .int (nI 0)), (6, .int (nI (zNd a))), (5, .int (nI (zNb a))), (0, .ref b), (1, .ref (q 0)), (2, .ref (p 0)), (3, .int (nI t))] rfl ?_
  refine z_iload C dL_law_106 4 rfl ?_
  refine z_newaI C (C.w 3 rfl) (n := zNd a) (by omega) (by show (_ : Nat) ≤ 689705; (try dsimp only); omega) (by show (_ : Nat) ≤ 7032353; (try dsimp only); omega) dL_law_108 (fun x108 => ?_)
  refine zW.eqw (ws2 := wB g q a (zG0 a) bs wb pd gw ++ (wS g p a sm ++ [(x108, .inl (zI g, zNd a, .inl (fun _ => nI 0)))])) (List.append_assoc _ _ _) ?_
  refine z_astore C dL_law_110 (by decide) [(11, .ref x108), (10, .int (nI 0)), (9, .int (nI 0)), (8, .int (nI 0)), (7, .int (nI 0)), (6, .int (nI (zNd a))), (5, .int (nI (zNb a))), (0, .ref b), (1, .ref (q 0)), (2, .ref (p 0)), (3, .int (nI t))] rfl ?_
  refine zW.eqw (ws2 := wB g q a (zG0 a) bs wb pd gw ++ (wS g p a sm ++ [(x108, .inl (zI g, zNd a, .inl (fun d => nI (zWc a 0 d))))])) rfl ?_
  refine z_iconst C (nI 0) dL_law_112 (by decide) ?_
  refine z_istore C dL_law_113 (by decide) [(12, .int (nI 0)), (11, .ref x108), (10, .int (nI 0)), (9, .int (nI 0)), (8, .int (nI 0)), (7, .int (nI 0)), (6, .int (nI (zNd a))), (5, .int (nI (zNb a))), (0, .ref b), (1, .ref (q 0)), (2, .ref (p 0)), (3, .int (nI t))] rfl ?_
  refine zW.pick (lv' := [(0, .ref b), (1, .ref (q 0)), (2, .ref (p 0)), (3, .int (nI t)), (5, .int (nI (zNb a))), (6, .int (nI (zNd a))), (7, .int (nI 0)), (8, .int (nI 0)), (9, .int (nI 0)), (10, .int (nI 0)), (11, .ref x108), (12, .int (nI 0))]) [8, 9, 10, 11, 7, 6, 5, 4, 3, 2, 1, 0] rfl ?_
  have hlp115 : ∀ (k i : Nat), i + k = zNb a → zW g l (room_1) E (Q) 17 (cn + 1) (sn + (zNd a)) (wB g q a (zG0 a) bs wb pd gw ++ (wS g p a sm ++ [(x108, .inl (zI g, zNd a, .inl (fun d => nI (zWc a i d))))])) [(0, .ref b), (1, .ref (q 0)), (2, .ref (p 0)), (3, .int (nI t)), (5, .int (nI (zNb a))), (6, .int (nI (zNd a))), (7, .int (nI (zOrs (fun b => if (zFw a 0).2.testBit b = true then zBu a b else 0) i))), (8, .int (iZ (zSi (fun b => if (zFw a 0).2.testBit b = true then zGn a b else 0) i))), (9, .int (nI (zSum (fun b => if (zFw a 0).2.testBit b = true then zPr a b else 0) i))), (10, .int (nI (zPop (zFw a 0).2 i))), (11, .ref x108), (12, .int (nI i))] [] 115 := by
    intro k
    induction k with
    | zero =>
      intro i hik
      refine z_iload C dL_law_115 11 rfl ?_
      refine z_iload C dL_law_117 4 rfl ?_
      refine z_icmp_ge C 290 dL_law_119 (by decide) (zle_NN (by omega) (by omega)) (fun c_119 => ?_) (fun h9 => absurd (by omega) h9)
      have ei : i = zNb a := by omega
      subst ei
      refine zW.pick (lv' := [(0, .ref b), (1, .ref (q 0)), (2, .ref (p 0)), (3, .int (nI t)), (5, .int (nI (zNb a))), (6, .int (nI (zNd a))), (7, .int (nI (zOrs (fun b => if (zFw a 0).2.testBit b = true then zBu a b else 0) (zNb a)))), (8, .int (iZ (zSi (fun b => if (zFw a 0).2.testBit b = true then zGn a b else 0) (zNb a)))), (9, .int (nI (zSum (fun b => if (zFw a 0).2.testBit b = true then zPr a b else 0) (zNb a)))), (10, .int (nI (zPop (zFw a 0).2 (zNb a)))), (11, .ref x108)]) [0, 1, 2, 3, 4, 5, 6, 7, 8, 9, 10] rfl ?_
      refine zW.lve (lv' := [(0, .ref b), (1, .ref (q 0)), (2, .ref (p 0)), (3, .int (nI t)), (5, .int (nI (zNb a))), (6, .int (nI (zNd a))), (7, .int (nI (aSold a))), (8, .int (iZ ((zFw a 0).1))), (9, .int (nI (zSum (fun b => if (zFw a 0).2.testBit b = true then zPr a b else 0) (zNb a)))), (10, .int (nI (zPop (zFw a 0).2 12))), (11, .ref x108)]) (by rw [zFw_gain ha, zFw_many ha]; rfl) ?_
      refine z_iload C dL_law_290 7 rfl ?_
      refine z_aload_n C dL_law_292 1 rfl ?_
      refine z_iconst C (nI 3) dL_law_293 (by decide) ?_
      refine z_callV C (zM.fl (c_X2_count l g q a bs wb pd gw ha hs 3 (by omega)) (wS g p a sm ++ [(x108, .inl (zI g, zNd a, .inl (fun d => nI (zWc a (zNb a) d))))])) (cwV 1 C.ts gL_law_X2_count rfl rfl rfl (by decide +kernel) ⟨Nat.le_of_ble_eq_true rfl, Nat.le_of_ble_eq_true rfl⟩) (zapp_l wB_o) rfl rfl rfl (Nat.le_of_ble_eq_true rfl) dL_law_294 ⟨by show (_ : Nat) ≤ 689705; (try dsimp only); omega, by show (_ : Nat) ≤ 7032353; (try dsimp only); omega⟩ ?_
      rintro _ _ ⟨_, ⟨rfl, rfl⟩, rfl⟩
      refine zW.eqst (st2 := [.int (iZ (aCount a 3)), .int (iZ ((zFw a 0).1))]) rfl ?_
      refine z_icmp_ne C 321 dL_law_297 (by decide) Iff.rfl (fun h9 => absurd rfl h9) (fun c_297 => ?_)
      refine z_iload C dL_law_300 8 rfl ?_
      refine z_aload_n C dL_law_302 1 rfl ?_
      refine z_bipush C (nI 8) dL_law_303 (by decide) ?_
      refine z_callV C (zM.fl (c_X2_count l g q a bs wb pd gw ha hs 8 (by omega)) (wS g p a sm ++ [(x108, .inl (zI g, zNd a, .inl (fun d => nI (zWc a (zNb a) d))))])) (cwV 1 C.ts gL_law_X2_count rfl rfl rfl (by decide +kernel) ⟨Nat.le_of_ble_eq_true rfl, Nat.le_of_ble_eq_true rfl⟩) (zapp_l wB_o) rfl rfl rfl (Nat.le_of_ble_eq_true rfl) dL_law_305 ⟨by show (_ : Nat) ≤ 689705; (try dsimp only); omega, by show (_ : Nat) ≤ 7032353; (try dsimp only); omega⟩ ?_
      rintro _ _ ⟨_, ⟨rfl, rfl⟩, rfl⟩
      refine zW.eqst (st2 := [.int (iZ (aCount a 8)), .int (nI (zSum (fun b => if (zFw a 0).2.testBit b = true then zPr a b else 0) (zNb a)))]) rfl ?_
      refine z_icmp_ne C 321 dL_law_308 (by decide) Iff.rfl (fun h9 => absurd rfl h9) (fun c_308 => ?_)
      refine z_iload C dL_law_311 9 rfl ?_
      refine z_aload_n C dL_law_313 1 rfl ?_
      refine z_iconst C (nI 4) dL_law_314 (by decide) ?_
      refine z_callV C (zM.fl (c_X2_count l g q a bs wb pd gw ha hs 4 (by omega)) (wS g p a sm ++ [(x108, .inl (zI g, zNd a, .inl (fun d => nI (zWc a (zNb a) d))))])) (cwV 1 C.ts gL_law_X2_count rfl rfl rfl (by decide +kernel) ⟨Nat.le_of_ble_eq_true rfl, Nat.le_of_ble_eq_true rfl⟩) (zapp_l wB_o) rfl rfl rfl (Nat.le_of_ble_eq_true rfl) dL_law_315 ⟨by show (_ : Nat) ≤ 689705; (try dsimp only); omega, by show (_ : Nat) ≤ 7032353; (try dsimp only); omega⟩ ?_
      rintro _ _ ⟨_, ⟨rfl, rfl⟩, rfl⟩
      refine zW.eqst (st2 := [.int (iZ (aCount a 4)), .int (nI (zPop (zFw a 0).2 12))]) rfl ?_
      refine z_icmp_eq C 323 dL_law_318 (by decide) Iff.rfl (fun c_318 => ?_) (fun h9 => absurd rfl h9)
      refine z_iconst C (nI 0) dL_law_323 (by decide) ?_
      refine z_istore C dL_law_324 (by decide) [(12, .int (nI 0)), (0, .ref b), (1, .ref (q 0)), (2, .ref (p 0)), (3, .int (nI t)), (5, .int (nI (zNb a))), (6, .int (nI (zNd a))), (7, .int (nI (aSold a))), (8, .int (iZ ((zFw a 0).1))), (9, .int (nI (zSum (fun b => if (zFw a 0).2.testBit b = true then zPr a b else 0) (zNb a)))), (10, .int (nI (zPop (zFw a 0).2 12))), (11, .ref x108)] rfl ?_
      refine zW.pick (lv' := [(0, .ref b), (1, .ref (q 0)), (2, .ref (p 0)), (3, .int (nI t)), (5, .int (nI (zNb a))), (6, .int (nI (zNd a))), (7, .int (nI (aSold a))), (8, .int (iZ ((zFw a 0).1))), (10, .int (nI (zPop (zFw a 0).2 12))), (11, .ref x108), (12, .int (nI 0))]) [1, 2, 3, 4, 5, 6, 7, 8, 10, 11, 0] rfl ?_
      have hlp326 : ∀ (k2 i2 : Nat), i2 + k2 = zNb a → zW g l (room_1) E (Q) 17 (cn + 1) (sn + (zNd a)) (wB g q a (zG0 a) bs wb pd gw ++ (wS g p a sm ++ [(x108, .inl (zI g, zNd a, .inl (fun d => nI (zWc a (zNb a) d))))])) [(0, .ref b), (1, .ref (q 0)), (2, .ref (p 0)), (3, .int (nI t)), (5, .int (nI (zNb a))), (6, .int (nI (zNd a))), (7, .int (nI (aSold a))), (8, .int (iZ ((zFw a 0).1))), (10, .int (nI (zPop (zFw a 0).2 12))), (11, .ref x108), (12, .int (nI i2))] [] 326 := by
        intro k2
        induction k2 with
        | zero =>
          intro i2 hi2k
          refine z_iload C dL_law_326 10 rfl ?_
          refine z_iload C dL_law_328 4 rfl ?_
          refine z_icmp_ge C 452 dL_law_330 (by decide) (zle_NN (by omega) (by omega)) (fun c_330 => ?_) (fun h9 => absurd (by omega) h9)
          refine z_iconst C (nI 0) dL_law_452 (by decide) ?_
          refine z_istore C dL_law_453 (by decide) [(12, .int (nI 0)), (0, .ref b), (1, .ref (q 0)), (2, .ref (p 0)), (3, .int (nI t)), (5, .int (nI (zNb a))), (6, .int (nI (zNd a))), (7, .int (nI (aSold a))), (8, .int (iZ ((zFw a 0).1))), (10, .int (nI (zPop (zFw a 0).2 12))), (11, .ref x108)] rfl ?_
          refine z_iconst C (nI 0) dL_law_455 (by decide) ?_
          refine z_istore C dL_law_456 (by decide) [(13, .int (nI 0)), (12, .int (nI 0)), (0, .ref b), (1, .ref (q 0)), (2, .ref (p 0)), (3, .int (nI t)), (5, .int (nI (zNb a))), (6, .int (nI (zNd a))), (7, .int (nI (aSold a))), (8, .int (iZ ((zFw a 0).1))), (10, .int (nI (zPop (zFw a 0).2 12))), (11, .ref x108)] rfl ?_
          refine zW.pick (lv' := [(0, .ref b), (1, .ref (q 0)), (2, .ref (p 0)), (3, .int (nI t)), (5, .int (nI (zNb a))), (6, .int (nI (zNd a))), (7, .int (nI (aSold a))), (8, .int (iZ ((zFw a 0).1))), (10, .int (nI (zPop (zFw a 0).2 12))), (11, .ref x108), (12, .int (nI 0)), (13, .int (nI 0))]) [2, 3, 4, 5, 6, 7, 8, 9, 10, 11, 1, 0] rfl ?_
          have hlp458 : ∀ (kf f : Nat), f + kf = zNf a → zW g l (room_1) E (Q) 17 (cn + 1) (sn + (zNd a)) (wB g q a (zG0 a) bs wb pd gw ++ (wS g p a sm ++ [(x108, .inl (zI g, zNd a, .inl (fun d => nI (zWc a (zNb a) d))))])) [(0, .ref b), (1, .ref (q 0)), (2, .ref (p 0)), (3, .int (nI t)), (5, .int (nI (zNb a))), (6, .int (nI (zNd a))), (7, .int (nI (aSold a))), (8, .int (iZ ((zFw a 0).1))), (10, .int (nI (zPop (zFw a 0).2 12))), (11, .ref x108), (12, .int (nI (zPop (aSold a) f))), (13, .int (nI f))] [] 458 := by
            intro kf
            induction kf with
            | zero =>
              intro f hfk
              refine z_iload C dL_law_458 11 rfl ?_
              refine z_aload_n C dL_law_460 1 rfl ?_
              refine z_iconst C (nI 0) dL_law_461 (by decide) ?_
              refine z_callV C (zM.fl (c_X2_count l g q a bs wb pd gw ha hs 0 (by omega)) (wS g p a sm ++ [(x108, .inl (zI g, zNd a, .inl (fun d => nI (zWc a (zNb a) d))))])) (cwV 1 C.ts gL_law_X2_count rfl rfl rfl (by decide +kernel) ⟨Nat.le_of_ble_eq_true rfl, Nat.le_of_ble_eq_true rfl⟩) (zapp_l wB_o) rfl rfl rfl (Nat.le_of_ble_eq_true rfl) dL_law_462 ⟨by show (_ : Nat) ≤ 689705; (try dsimp only); omega, by show (_ : Nat) ≤ 7032353; (try dsimp only); omega⟩ ?_
              rintro _ _ ⟨_, ⟨rfl, rfl⟩, rfl⟩
              refine zW.eqst (st2 := [.int (iZ (aCount a 0)), .int (nI f)]) rfl ?_
              refine zW.top (y := nI (zNf a)) rfl ?_
              refine z_icmp_ge C 553 dL_law_465 (by decide) (zle_NN (by omega) (by omega)) (fun c_465 => ?_) (fun h9 => absurd (by omega) h9)
              refine zW.pick (lv' := [(0, .ref b), (1, .ref (q 0)), (2, .ref (p 0)), (3, .int (nI t)), (5, .int (nI (zNb a))), (6, .int (nI (zNd a))), (7, .int (nI (aSold a))), (8, .int (iZ ((zFw a 0).1))), (10, .int (nI (zPop (zFw a 0).2 12))), (11, .ref x108), (12, .int (nI (zPop (aSold a) f)))]) [0, 1, 2, 3, 4, 5, 6, 7, 8, 9, 10] rfl ?_
              refine zW.lve (lv' := [(0, .ref b), (1, .ref (q 0)), (2, .ref (p 0)), (3, .int (nI t)), (5, .int (nI (zNb a))), (6, .int (nI (zNd a))), (7, .int (nI (aSold a))), (8, .int (iZ ((zFw a 0).1))), (10, .int (nI (zPop (zFw a 0).2 12))), (11, .ref x108), (12, .int (nI (zPop (aSold a) (zNf a))))]) (by rw [show f = zNf a by omega]) ?_
              refine z_iconst C (nI 0) dL_law_553 (by decide) ?_
              refine z_istore C dL_law_554 (by decide) [(13, .int (nI 0)), (0, .ref b), (1, .ref (q 0)), (2, .ref (p 0)), (3, .int (nI t)), (5, .int (nI (zNb a))), (6, .int (nI (zNd a))), (7, .int (nI (aSold a))), (8, .int (iZ ((zFw a 0).1))), (10, .int (nI (zPop (zFw a 0).2 12))), (11, .ref x108), (12, .int (nI (zPop (aSold a) (zNf a))))] rfl ?_
              refine z_iconst C (nI 0) dL_law_556 (by decide) ?_
              refine z_istore C dL_law_557 (by decide) [(14, .int (nI 0)), (13, .int (nI 0)), (0, .ref b), (1, .ref (q 0)), (2, .ref (p 0)), (3, .int (nI t)), (5, .int (nI (zNb a))), (6, .int (nI (zNd a))), (7, .int (nI (aSold a))), (8, .int (iZ ((zFw a 0).1))), (10, .int (nI (zPop (zFw a 0).2 12))), (11, .ref x108), (12, .int (nI (zPop (aSold a) (zNf a))))] rfl ?_
              refine z_iconst C (nI 0) dL_law_559 (by decide) ?_
              refine z_istore C dL_law_560 (by decide) [(15, .int (nI 0)), (14, .int (nI 0)), (13, .int (nI 0)), (0, .ref b), (1, .ref (q 0)), (2, .ref (p 0)), (3, .int (nI t)), (5, .int (nI (zNb a))), (6, .int (nI (zNd a))), (7, .int (nI (aSold a))), (8, .int (iZ ((zFw a 0).1))), (10, .int (nI (zPop (zFw a 0).2 12))), (11, .ref x108), (12, .int (nI (zPop (aSold a) (zNf a))))] rfl ?_
              refine zW.pick (lv' := [(0, .ref b), (1, .ref (q 0)), (2, .ref (p 0)), (3, .int (nI t)), (5, .int (nI (zNb a))), (6, .int (nI (zNd a))), (7, .int (nI (aSold a))), (8, .int (iZ ((zFw a 0).1))), (10, .int (nI (zPop (zFw a 0).2 12))), (11, .ref x108), (12, .int (nI (zPop (aSold a) (zNf a)))), (13, .int (nI 0)), (14, .int (nI 0)), (15, .int (nI 0))]) [3, 4, 5, 6, 7, 8, 9, 10, 11, 12, 13, 2, 1, 0] rfl ?_
              have hlp562 : ∀ (kd d : Nat), d + kd = zNd a → zW g l (room_1) E (Q) 17 (cn + 1) (sn + (zNd a)) (wB g q a (zG0 a) bs wb pd gw ++ (wS g p a sm ++ [(x108, .inl (zI g, zNd a, .inl (fun d => nI (zWc a (zNb a) d))))])) [(0, .ref b), (1, .ref (q 0)), (2, .ref (p 0)), (3, .int (nI t)), (5, .int (nI (zNb a))), (6, .int (nI (zNd a))), (7, .int (nI (aSold a))), (8, .int (iZ ((zFw a 0).1))), (10, .int (nI (zPop (zFw a 0).2 12))), (11, .ref x108), (12, .int (nI (zPop (aSold a) (zNf a)))), (13, .int (iZ (zSi (aPaid a) d))), (14, .int (iZ (zSi (aProf a) d))), (15, .int (nI d))] [] 562 := by
                intro kd
                induction kd with
                | zero =>
                  intro d hdk
                  refine z_iload C dL_law_562 13 rfl ?_
                  refine z_iload C dL_law_564 5 rfl ?_
                  refine z_icmp_ge C 751 dL_law_566 (by decide) (zle_NN (by omega) (by omega)) (fun c_566 => ?_) (fun h9 => absurd (by omega) h9)
                  refine zW.pick (lv' := [(0, .ref b), (1, .ref (q 0)), (2, .ref (p 0)), (3, .int (nI t)), (5, .int (nI (zNb a))), (6, .int (nI (zNd a))), (7, .int (nI (aSold a))), (8, .int (iZ ((zFw a 0).1))), (10, .int (nI (zPop (zFw a 0).2 12))), (11, .ref x108), (12, .int (nI (zPop (aSold a) (zNf a)))), (13, .int (iZ (zSi (aPaid a) d))), (14, .int (iZ (zSi (aProf a) d)))]) [0, 1, 2, 3, 4, 5, 6, 7, 8, 9, 10, 11, 12] rfl ?_
                  refine zW.lve (lv' := [(0, .ref b), (1, .ref (q 0)), (2, .ref (p 0)), (3, .int (nI t)), (5, .int (nI (zNb a))), (6, .int (nI (zNd a))), (7, .int (nI (aSold a))), (8, .int (iZ ((zFw a 0).1))), (10, .int (nI (zPop (zFw a 0).2 12))), (11, .ref x108), (12, .int (nI (zPop (aSold a) (zNf a)))), (13, .int (iZ (zSi (aPaid a) (zNd a)))), (14, .int (iZ (zSi (aProf a) (zNd a))))]) (by rw [show d = zNd a by omega]) ?_
                  refine z_iload C dL_law_751 10 rfl ?_
                  refine z_aload_n C dL_law_753 1 rfl ?_
                  refine z_iconst C (nI 5) dL_law_754 (by decide) ?_
                  refine z_callV C (zM.fl (c_X2_count l g q a bs wb pd gw ha hs 5 (by omega)) (wS g p a sm ++ [(x108, .inl (zI g, zNd a, .inl (fun d => nI (zWc a (zNb a) d))))])) (cwV 1 C.ts gL_law_X2_count rfl rfl rfl (by decide +kernel) ⟨Nat.le_of_ble_eq_true rfl, Nat.le_of_ble_eq_true rfl⟩) (zapp_l wB_o) rfl rfl rfl (Nat.le_of_ble_eq_true rfl) dL_law_755 ⟨by show (_ : Nat) ≤ 689705; (try dsimp only); omega, by show (_ : Nat) ≤ 7032353; (try dsimp only); omega⟩ ?_
                  rintro _ _ ⟨_, ⟨rfl, rfl⟩, rfl⟩
                  refine zW.eqst (st2 := [.int (iZ (aCount a 5)), .int (nI (zPop (aSold a) (zNf a)))]) rfl ?_
                  refine z_icmp_ne C 807 dL_law_758 (by decide) Iff.rfl (fun h9 => absurd (by rw [aSold_pop ha]; rfl) h9) (fun c_758 => ?_)
                  refine z_iload C dL_law_761 11 rfl ?_
                  refine z_aload_n C dL_law_763 1 rfl ?_
                  refine z_bipush C (nI 6) dL_law_764 (by decide) ?_
                  refine z_callV C (zM.fl (c_X2_count l g q a bs wb pd gw ha hs 6 (by omega)) (wS g p a sm ++ [(x108, .inl (zI g, zNd a, .inl (fun d => nI (zWc a (zNb a) d))))])) (cwV 1 C.ts gL_law_X2_count rfl rfl rfl (by decide +kernel) ⟨Nat.le_of_ble_eq_true rfl, Nat.le_of_ble_eq_true rfl⟩) (zapp_l wB_o) rfl rfl rfl (Nat.le_of_ble_eq_true rfl) dL_law_766 ⟨by show (_ : Nat) ≤ 689705; (try dsimp only); omega, by show (_ : Nat) ≤ 7032353; (try dsimp only); omega⟩ ?_
                  rintro _ _ ⟨_, ⟨rfl, rfl⟩, rfl⟩
                  refine zW.eqst (st2 := [.int (iZ (aCount a 6)), .int (iZ (zSi (aPaid a) (zNd a)))]) rfl ?_
                  refine z_icmp_ne C 807 dL_law_769 (by decide) Iff.rfl (fun h9 => absurd (by rw [← aPaid_all ha]; rfl) h9) (fun c_769 => ?_)
                  refine z_iload C dL_law_772 12 rfl ?_
                  refine z_aload_n C dL_law_774 1 rfl ?_
                  refine z_bipush C (nI 7) dL_law_775 (by decide) ?_
                  refine z_callV C (zM.fl (c_X2_count l g q a bs wb pd gw ha hs 7 (by omega)) (wS g p a sm ++ [(x108, .inl (zI g, zNd a, .inl (fun d => nI (zWc a (zNb a) d))))])) (cwV 1 C.ts gL_law_X2_count rfl rfl rfl (by decide +kernel) ⟨Nat.le_of_ble_eq_true rfl, Nat.le_of_ble_eq_true rfl⟩) (zapp_l wB_o) rfl rfl rfl (Nat.le_of_ble_eq_true rfl) dL_law_777 ⟨by show (_ : Nat) ≤ 689705; (try dsimp only); omega, by show (_ : Nat) ≤ 7032353; (try dsimp only); omega⟩ ?_
                  rintro _ _ ⟨_, ⟨rfl, rfl⟩, rfl⟩
                  refine zW.eqst (st2 := [.int (iZ (aCount a 7)), .int (iZ (zSi (aProf a) (zNd a)))]) rfl ?_
                  refine z_icmp_ne C 807 dL_law_780 (by decide) Iff.rfl (fun h9 => absurd rfl h9) (fun c_780 => ?_)
                  refine z_aload_n C dL_law_783 1 rfl ?_
                  refine z_callV C (zM.fl (c_X2_mean l g q a bs wb pd gw ha hs) (wS g p a sm ++ [(x108, .inl (zI g, zNd a, .inl (fun d => nI (zWc a (zNb a) d))))])) (cwV 0 C.ts gL_law_X2_mean rfl rfl rfl (by decide +kernel) ⟨Nat.le_of_ble_eq_true rfl, Nat.le_of_ble_eq_true rfl⟩) (zapp_l wB_o) rfl rfl rfl (Nat.le_of_ble_eq_true rfl) dL_law_784 ⟨by show (_ : Nat) ≤ 689705; (try dsimp only); omega, by show (_ : Nat) ≤ 7032353; (try dsimp only); omega⟩ ?_
                  rintro _ _ ⟨_, ⟨rfl, rfl⟩, rfl⟩
                  refine zW.eqst (st2 := [.double (aMean a)]) rfl ?_
                  refine z_iload C dL_law_787 8 rfl ?_
                  refine z_if_ne C 796 dL_law_789 (by decide) (zeq_N0 (by omega)) (fun c_789 => ?_) (fun c_789 => ?_)
                  · skip
                    refine z_iload C dL_law_796 11 rfl ?_
                    refine z_i2d C dL_law_798 ?_
                    refine z_iload C dL_law_799 8 rfl ?_
                    refine z_i2d C dL_law_801 ?_
                    refine z_ddiv C dL_law_802 (zdiv_ok _ _ (fun h => c_789 ((zeq_N0 (by omega)).mp h))) ?_
                    refine z_dcmp C dL_law_803 (v := Op.cmpValue (FP.dcmp (aMean a) (FP.ddiv (FP.i2d (iZ (zSi (aPaid a) (zNd a)))) (FP.i2d (nI (zPop (zFw a 0).2 12))))) .l) rfl ?_
                    refine zW.top (y := nI 0) (by have e : aMean a = FP.ddiv (FP.i2d (iZ (zSi (aPaid a) (zNd a)))) (FP.i2d (nI (zPop (zFw a 0).2 12))) := (by unfold aMean; rw [if_neg c_789, aPaid_all ha]); rw [e]; exact zcmp_self (zdiv_no _ _ (fun h => c_789 ((zeq_N0 (by omega)).mp h)))) ?_
                    refine z_if_eq C 809 dL_law_804 (by decide) (zeq_N0 (by omega)) (fun c_804 => ?_) (fun h9 => absurd (by decide) h9)
                    refine zW.fewer [] (wB g q a (zG0 a) bs wb pd gw ++ (wS g p a sm)) [(x108, .inl (zI g, zNd a, .inl (fun d => nI (zWc a (zNb a) d))))] (List.append_assoc _ _ _).symm ?_
                    refine zW.pick (lv' := [(0, .ref b), (1, .ref (q 0)), (2, .ref (p 0)), (3, .int (nI t))]) [0, 1, 2, 3] rfl ?_
                    refine zW.wid (k := cn + 1) (n := sn + 5) (by (try dsimp only); omega) (by (try dsimp only); omega) ?_
                    exact kk
                  · skip
                    refine z_dconst0 C dL_law_792 ?_
                    refine z_goto C 803 dL_law_793 (by decide) ?_
                    refine z_dcmp C dL_law_803 (v := Op.cmpValue (FP.dcmp (aMean a) 0) .l) rfl ?_
                    refine zW.top (y := nI 0) (by have e : aMean a = 0 := (by unfold aMean; rw [if_pos c_789]); rw [e]; exact zcmp_self (by decide)) ?_
                    refine z_if_eq C 809 dL_law_804 (by decide) (zeq_N0 (by omega)) (fun c_804 => ?_) (fun h9 => absurd (by decide) h9)
                    refine zW.fewer [] (wB g q a (zG0 a) bs wb pd gw ++ (wS g p a sm)) [(x108, .inl (zI g, zNd a, .inl (fun d => nI (zWc a (zNb a) d))))] (List.append_assoc _ _ _).symm ?_
                    refine zW.pick (lv' := [(0, .ref b), (1, .ref (q 0)), (2, .ref (p 0)), (3, .int (nI t))]) [0, 1, 2, 3] rfl ?_
                    refine zW.wid (k := cn + 1) (n := sn + 5) (by (try dsimp only); omega) (by (try dsimp only); omega) ?_
                    exact kk
                | succ kd ih562 =>
                  intro d hdk
                  have hw0 := zFw_ok ha (2 ^ d)
                  obtain ⟨hw1, hw2, hw3⟩ := id hw0
                  have hbp : -20000 ≤ aPaid a d ∧ aPaid a d ≤ 20000 := zLp_bnd ha 0 d _ (Nat.le_refl _)
                  have hwc := zWc_le a (zNb a) d
                  refine z_iload C dL_law_562 13 rfl ?_
                  refine z_iload C dL_law_564 5 rfl ?_
                  refine z_icmp_ge C 751 dL_law_566 (by decide) (zle_NN (by omega) (by omega)) (fun h9 => absurd h9 (by omega)) (fun c_566 => ?_)
                  refine z_aload_n C dL_law_569 1 rfl ?_
                  refine z_iload C dL_law_570 13 rfl ?_
                  refine z_iconst C (nI 2) dL_law_572 (by decide) ?_
                  refine z_callV C (zM.fl (c_X2_about l g q a bs wb pd gw ha hs d 2 (by omega) (by omega)) (wS g p a sm ++ [(x108, .inl (zI g, zNd a, .inl (fun d => nI (zWc a (zNb a) d))))])) (cwV 2 C.ts gL_law_X2_about rfl rfl rfl (by decide +kernel) ⟨Nat.le_of_ble_eq_true rfl, Nat.le_of_ble_eq_true rfl⟩) (zapp_l wB_o) rfl rfl rfl (Nat.le_of_ble_eq_true rfl) dL_law_573 ⟨by show (_ : Nat) ≤ 689705; (try dsimp only); omega, by show (_ : Nat) ≤ 7032353; (try dsimp only); omega⟩ ?_
                  rintro _ _ ⟨_, ⟨rfl, rfl⟩, rfl⟩
                  refine zW.eqst (st2 := [.int (iZ (aAbout a d 2))]) rfl ?_
                  rcases aWin_or (a := a) d with hw | ⟨c, hc, hw, hS, hco⟩
                  · skip
                    refine zW.top (y := iZ (-1)) (congrArg iZ hw) ?_
                    refine z_istore C dL_law_576 (by decide) [(16, .int (iZ (-1))), (0, .ref b), (1, .ref (q 0)), (2, .ref (p 0)), (3, .int (nI t)), (5, .int (nI (zNb a))), (6, .int (nI (zNd a))), (7, .int (nI (aSold a))), (8, .int (iZ ((zFw a 0).1))), (10, .int (nI (zPop (zFw a 0).2 12))), (11, .ref x108), (12, .int (nI (zPop (aSold a) (zNf a)))), (13, .int (iZ (zSi (aPaid a) d))), (14, .int (iZ (zSi (aProf a) d))), (15, .int (nI d))] rfl ?_
                    refine z_iload C dL_law_578 0 rfl ?_
                    refine z_if_ge C 587 dL_law_580 (by decide) (zle_0Z (by unfold zB31; omega)) (fun h9 => absurd h9 (by decide)) (fun c_580 => ?_)
                    refine z_iconst C (nI 1) dL_law_583 (by decide) ?_
                    refine z_goto C 588 dL_law_584 (by decide) ?_
                    refine z_aload C dL_law_588 10 rfl ?_
                    refine z_iload C dL_law_590 14 rfl ?_
                    refine z_ialdN C (20 + ((wS g p a sm).length + 0)) (zapp_B (zapp_r (k := 0) rfl)) (by omega) (by omega) dL_law_592 (v := nI (zWc a (zNb a) d)) rfl ?_
                    refine z_if_ne C 600 dL_law_593 (by decide) (zeq_N0 (by omega)) (fun h9 => absurd (zWc_no hw) h9) (fun c_593 => ?_)
                    refine z_iconst C (nI 1) dL_law_596 (by decide) ?_
                    refine z_goto C 601 dL_law_597 (by decide) ?_
                    refine z_icmp_ne C 651 dL_law_601 (by decide) (zeq_NN (by omega) (by omega)) (fun h9 => absurd (by decide) h9) (fun c_601 => ?_)
                    refine z_iload C dL_law_604 0 rfl ?_
                    refine z_if_ge C 629 dL_law_606 (by decide) (zle_0Z (by unfold zB31; omega)) (fun h9 => absurd h9 (by decide)) (fun c_606 => ?_)
                    refine z_aload_n C dL_law_609 2 rfl ?_
                    refine z_iload C dL_law_610 14 rfl ?_
                    refine z_iconst C (nI 3) dL_law_612 (by decide) ?_
                    refine z_callV C (zM.fl (c_X2_about l g q a bs wb pd gw ha hs d 3 (by omega) (by omega)) (wS g p a sm ++ [(x108, .inl (zI g, zNd a, .inl (fun d => nI (zWc a (zNb a) d))))])) (cwV 2 C.ts gL_law_X2_about rfl rfl rfl (by decide +kernel) ⟨Nat.le_of_ble_eq_true rfl, Nat.le_of_ble_eq_true rfl⟩) (zapp_l wB_o) rfl rfl rfl (Nat.le_of_ble_eq_true rfl) dL_law_613 ⟨by show (_ : Nat) ≤ 689705; (try dsimp only); omega, by show (_ : Nat) ≤ 7032353; (try dsimp only); omega⟩ ?_
                    rintro _ _ ⟨_, ⟨rfl, rfl⟩, rfl⟩
                    refine zW.eqst (st2 := [.int (iZ (aAbout a d 3))]) rfl ?_
                    refine zW.top (y := nI 0) (congrArg iZ (aPaid_n hw)) ?_
                    refine z_if_ne C 651 dL_law_616 (by decide) (zeq_N0 (by omega)) (fun h9 => absurd (by decide) h9) (fun c_616 => ?_)
                    refine z_aload_n C dL_law_619 2 rfl ?_
                    refine z_iload C dL_law_620 14 rfl ?_
                    refine z_iconst C (nI 4) dL_law_622 (by decide) ?_
                    refine z_callV C (zM.fl (c_X2_about l g q a bs wb pd gw ha hs d 4 (by omega) (by omega)) (wS g p a sm ++ [(x108, .inl (zI g, zNd a, .inl (fun d => nI (zWc a (zNb a) d))))])) (cwV 2 C.ts gL_law_X2_about rfl rfl rfl (by decide +kernel) ⟨Nat.le_of_ble_eq_true rfl, Nat.le_of_ble_eq_true rfl⟩) (zapp_l wB_o) rfl rfl rfl (Nat.le_of_ble_eq_true rfl) dL_law_623 ⟨by show (_ : Nat) ≤ 689705; (try dsimp only); omega, by show (_ : Nat) ≤ 7032353; (try dsimp only); omega⟩ ?_
                    rintro _ _ ⟨_, ⟨rfl, rfl⟩, rfl⟩
                    refine zW.eqst (st2 := [.int (iZ (aAbout a d 4))]) rfl ?_
                    refine zW.top (y := nI 0) (congrArg iZ (aProf_n hw)) ?_
                    refine z_if_ne C 651 dL_law_626 (by decide) (zeq_N0 (by omega)) (fun h9 => absurd (by decide) h9) (fun c_626 => ?_)
                    refine z_aload_n C dL_law_629 2 rfl ?_
                    refine z_iload C dL_law_630 14 rfl ?_
                    refine z_iconst C (nI 5) dL_law_632 (by decide) ?_
                    refine z_callV C (zM.fl (c_X2_about l g q a bs wb pd gw ha hs d 5 (by omega) (by omega)) (wS g p a sm ++ [(x108, .inl (zI g, zNd a, .inl (fun d => nI (zWc a (zNb a) d))))])) (cwV 2 C.ts gL_law_X2_about rfl rfl rfl (by decide +kernel) ⟨Nat.le_of_ble_eq_true rfl, Nat.le_of_ble_eq_true rfl⟩) (zapp_l wB_o) rfl rfl rfl (Nat.le_of_ble_eq_true rfl) dL_law_633 ⟨by show (_ : Nat) ≤ 689705; (try dsimp only); omega, by show (_ : Nat) ≤ 7032353; (try dsimp only); omega⟩ ?_
                    rintro _ _ ⟨_, ⟨rfl, rfl⟩, rfl⟩
                    refine zW.eqst (st2 := [.int (iZ (aAbout a d 5))]) rfl ?_
                    refine zW.top (y := iZ ((zFw a (2 ^ d)).1)) (congrArg iZ (zGw_d (by omega))) ?_
                    refine z_iload C dL_law_636 8 rfl ?_
                    refine z_icmp_gt C 651 dL_law_638 (by decide) (zlt_ZZ (x := ((zFw a 0).1)) (y := ((zFw a (2 ^ d)).1)) (by unfold zB31; omega) (by unfold zB31; omega)) (fun h9 => absurd h9 (by have := zGw_le ha d; omega)) (fun c_638 => ?_)
                    refine z_aload_n C dL_law_641 2 rfl ?_
                    refine z_iload C dL_law_642 14 rfl ?_
                    refine z_iconst C (nI 5) dL_law_644 (by decide) ?_
                    refine z_callV C (zM.fl (c_X2_about l g q a bs wb pd gw ha hs d 5 (by omega) (by omega)) (wS g p a sm ++ [(x108, .inl (zI g, zNd a, .inl (fun d => nI (zWc a (zNb a) d))))])) (cwV 2 C.ts gL_law_X2_about rfl rfl rfl (by decide +kernel) ⟨Nat.le_of_ble_eq_true rfl, Nat.le_of_ble_eq_true rfl⟩) (zapp_l wB_o) rfl rfl rfl (Nat.le_of_ble_eq_true rfl) dL_law_645 ⟨by show (_ : Nat) ≤ 689705; (try dsimp only); omega, by show (_ : Nat) ≤ 7032353; (try dsimp only); omega⟩ ?_
                    rintro _ _ ⟨_, ⟨rfl, rfl⟩, rfl⟩
                    refine zW.eqst (st2 := [.int (iZ (aAbout a d 5))]) rfl ?_
                    refine zW.top (y := iZ ((zFw a (2 ^ d)).1)) (congrArg iZ (zGw_d (by omega))) ?_
                    refine z_if_ge C 653 dL_law_648 (by decide) (zle_0Z (by unfold zB31; omega)) (fun c_648 => ?_) (fun h9 => absurd (by omega) h9)
                    refine z_iload C dL_law_653 0 rfl ?_
                    refine z_if_lt C 702 dL_law_655 (by decide) (zlt_Z0 (by unfold zB31; omega)) (fun c_655 => ?_) (fun h9 => absurd (by decide) h9)
                    refine z_iload C dL_law_702 0 rfl ?_
                    refine z_if_ge C 721 dL_law_704 (by decide) (zle_0Z (by unfold zB31; omega)) (fun h9 => absurd h9 (by decide)) (fun c_704 => ?_)
                    refine z_aload_n C dL_law_707 2 rfl ?_
                    refine z_iload C dL_law_708 14 rfl ?_
                    refine z_iconst C (nI 5) dL_law_710 (by decide) ?_
                    refine z_callV C (zM.fl (c_X2_about l g q a bs wb pd gw ha hs d 5 (by omega) (by omega)) (wS g p a sm ++ [(x108, .inl (zI g, zNd a, .inl (fun d => nI (zWc a (zNb a) d))))])) (cwV 2 C.ts gL_law_X2_about rfl rfl rfl (by decide +kernel) ⟨Nat.le_of_ble_eq_true rfl, Nat.le_of_ble_eq_true rfl⟩) (zapp_l wB_o) rfl rfl rfl (Nat.le_of_ble_eq_true rfl) dL_law_711 ⟨by show (_ : Nat) ≤ 689705; (try dsimp only); omega, by show (_ : Nat) ≤ 7032353; (try dsimp only); omega⟩ ?_
                    rintro _ _ ⟨_, ⟨rfl, rfl⟩, rfl⟩
                    refine zW.eqst (st2 := [.int (iZ (aAbout a d 5))]) rfl ?_
                    refine zW.top (y := iZ ((zFw a (2 ^ d)).1)) (congrArg iZ (zGw_d (by omega))) ?_
                    refine z_iload C dL_law_714 8 rfl ?_
                    refine z_icmp_eq C 721 dL_law_716 (by decide) (zeq_ZZ (x := ((zFw a (2 ^ d)).1)) (y := ((zFw a 0).1)) (by unfold zB31; omega) (by unfold zB31; omega)) (fun c_716 => ?_) (fun h9 => absurd (zGw_no ha hw) h9)
                    refine z_iload C dL_law_721 12 rfl ?_
                    refine z_aload_n C dL_law_723 2 rfl ?_
                    refine z_iload C dL_law_724 14 rfl ?_
                    refine z_iconst C (nI 3) dL_law_726 (by decide) ?_
                    refine z_callV C (zM.fl (c_X2_about l g q a bs wb pd gw ha hs d 3 (by omega) (by omega)) (wS g p a sm ++ [(x108, .inl (zI g, zNd a, .inl (fun d => nI (zWc a (zNb a) d))))])) (cwV 2 C.ts gL_law_X2_about rfl rfl rfl (by decide +kernel) ⟨Nat.le_of_ble_eq_true rfl, Nat.le_of_ble_eq_true rfl⟩) (zapp_l wB_o) rfl rfl rfl (Nat.le_of_ble_eq_true rfl) dL_law_727 ⟨by show (_ : Nat) ≤ 689705; (try dsimp only); omega, by show (_ : Nat) ≤ 7032353; (try dsimp only); omega⟩ ?_
                    rintro _ _ ⟨_, ⟨rfl, rfl⟩, rfl⟩
                    refine zW.eqst (st2 := [.int (iZ (aAbout a d 3)), .int (iZ (zSi (aPaid a) d))]) rfl ?_
                    refine zW.top (y := iZ (aPaid a d)) rfl ?_
                    refine z_iadd C dL_law_730 (v := iZ ((zSi (aPaid a) d) + (aPaid a d))) (iZ_add (zSi (aPaid a) d) (aPaid a d)) ?_
                    refine z_istore C dL_law_731 (by decide) [(13, .int (iZ ((zSi (aPaid a) d) + (aPaid a d)))), (16, .int (iZ (-1))), (0, .ref b), (1, .ref (q 0)), (2, .ref (p 0)), (3, .int (nI t)), (5, .int (nI (zNb a))), (6, .int (nI (zNd a))), (7, .int (nI (aSold a))), (8, .int (iZ ((zFw a 0).1))), (10, .int (nI (zPop (zFw a 0).2 12))), (11, .ref x108), (12, .int (nI (zPop (aSold a) (zNf a)))), (14, .int (iZ (zSi (aProf a) d))), (15, .int (nI d))] rfl ?_
                    refine z_iload C dL_law_733 13 rfl ?_
                    refine z_aload_n C dL_law_735 3 rfl ?_
                    refine z_iload C dL_law_736 14 rfl ?_
                    refine z_iconst C (nI 4) dL_law_738 (by decide) ?_
                    refine z_callV C (zM.fl (c_X2_about l g q a bs wb pd gw ha hs d 4 (by omega) (by omega)) (wS g p a sm ++ [(x108, .inl (zI g, zNd a, .inl (fun d => nI (zWc a (zNb a) d))))])) (cwV 2 C.ts gL_law_X2_about rfl rfl rfl (by decide +kernel) ⟨Nat.le_of_ble_eq_true rfl, Nat.le_of_ble_eq_true rfl⟩) (zapp_l wB_o) rfl rfl rfl (Nat.le_of_ble_eq_true rfl) dL_law_739 ⟨by show (_ : Nat) ≤ 689705; (try dsimp only); omega, by show (_ : Nat) ≤ 7032353; (try dsimp only); omega⟩ ?_
                    rintro _ _ ⟨_, ⟨rfl, rfl⟩, rfl⟩
                    refine zW.eqst (st2 := [.int (iZ (aAbout a d 4)), .int (iZ (zSi (aProf a) d))]) rfl ?_
                    refine zW.top (y := iZ (aProf a d)) rfl ?_
                    refine z_iadd C dL_law_742 (v := iZ ((zSi (aProf a) d) + (aProf a d))) (iZ_add (zSi (aProf a) d) (aProf a d)) ?_
                    refine z_istore C dL_law_743 (by decide) [(14, .int (iZ ((zSi (aProf a) d) + (aProf a d)))), (13, .int (iZ ((zSi (aPaid a) d) + (aPaid a d)))), (16, .int (iZ (-1))), (0, .ref b), (1, .ref (q 0)), (2, .ref (p 0)), (3, .int (nI t)), (5, .int (nI (zNb a))), (6, .int (nI (zNd a))), (7, .int (nI (aSold a))), (8, .int (iZ ((zFw a 0).1))), (10, .int (nI (zPop (zFw a 0).2 12))), (11, .ref x108), (12, .int (nI (zPop (aSold a) (zNf a)))), (15, .int (nI d))] rfl ?_
                    refine z_iinc C dL_law_745 14 (nI (d + 1)) rfl (nI_add d 1) (by decide) [(15, .int (nI (d + 1))), (14, .int (iZ ((zSi (aProf a) d) + (aProf a d)))), (13, .int (iZ ((zSi (aPaid a) d) + (aPaid a d)))), (16, .int (iZ (-1))), (0, .ref b), (1, .ref (q 0)), (2, .ref (p 0)), (3, .int (nI t)), (5, .int (nI (zNb a))), (6, .int (nI (zNd a))), (7, .int (nI (aSold a))), (8, .int (iZ ((zFw a 0).1))), (10, .int (nI (zPop (zFw a 0).2 12))), (11, .ref x108), (12, .int (nI (zPop (aSold a) (zNf a))))] rfl ?_
                    refine z_goto C 562 dL_law_748 (by decide) ?_
                    refine zW.pick (lv' := [(0, .ref b), (1, .ref (q 0)), (2, .ref (p 0)), (3, .int (nI t)), (5, .int (nI (zNb a))), (6, .int (nI (zNd a))), (7, .int (nI (aSold a))), (8, .int (iZ ((zFw a 0).1))), (10, .int (nI (zPop (zFw a 0).2 12))), (11, .ref x108), (12, .int (nI (zPop (aSold a) (zNf a)))), (13, .int (iZ ((zSi (aPaid a) d) + (aPaid a d)))), (14, .int (iZ ((zSi (aProf a) d) + (aProf a d)))), (15, .int (nI (d + 1)))]) [4, 5, 6, 7, 8, 9, 10, 11, 12, 13, 14, 2, 1, 0] rfl ?_
                    refine zW.lve (lv' := [(0, .ref b), (1, .ref (q 0)), (2, .ref (p 0)), (3, .int (nI t)), (5, .int (nI (zNb a))), (6, .int (nI (zNd a))), (7, .int (nI (aSold a))), (8, .int (iZ ((zFw a 0).1))), (10, .int (nI (zPop (zFw a 0).2 12))), (11, .ref x108), (12, .int (nI (zPop (aSold a) (zNf a)))), (13, .int (iZ (zSi (aPaid a) (d + 1)))), (14, .int (iZ (zSi (aProf a) (d + 1)))), (15, .int (nI (d + 1)))]) (rfl) ?_
                    exact ih562 (d + 1) (by omega)
                  · skip
                    refine zW.top (y := nI c) (congrArg iZ hw) ?_
                    have hgc := zGn_bnd ha hc
                    have hpc := ha.pr hc
                    have hlo := aPaid_lo ha hS
                    have hhi := aPaid_hi ha hS
                    rw [hco] at hlo hhi
                    refine z_istore C dL_law_576 (by decide) [(16, .int (nI c)), (0, .ref b), (1, .ref (q 0)), (2, .ref (p 0)), (3, .int (nI t)), (5, .int (nI (zNb a))), (6, .int (nI (zNd a))), (7, .int (nI (aSold a))), (8, .int (iZ ((zFw a 0).1))), (10, .int (nI (zPop (zFw a 0).2 12))), (11, .ref x108), (12, .int (nI (zPop (aSold a) (zNf a)))), (13, .int (iZ (zSi (aPaid a) d))), (14, .int (iZ (zSi (aProf a) d))), (15, .int (nI d))] rfl ?_
                    refine z_iload C dL_law_578 0 rfl ?_
                    refine z_if_ge C 587 dL_law_580 (by decide) (zle_0N (by omega)) (fun c_580 => ?_) (fun h9 => absurd trivial h9)
                    refine z_iconst C (nI 0) dL_law_587 (by decide) ?_
                    refine z_aload C dL_law_588 10 rfl ?_
                    refine z_iload C dL_law_590 14 rfl ?_
                    refine z_ialdN C (20 + ((wS g p a sm).length + 0)) (zapp_B (zapp_r (k := 0) rfl)) (by omega) (by omega) dL_law_592 (v := nI (zWc a (zNb a) d)) rfl ?_
                    refine z_if_ne C 600 dL_law_593 (by decide) (zeq_N0 (by omega)) (fun c_593 => ?_) (fun h9 => absurd h9 (by have := zWc_yes hc hS hco; omega))
                    refine z_iconst C (nI 0) dL_law_600 (by decide) ?_
                    refine z_icmp_ne C 651 dL_law_601 (by decide) (zeq_NN (by omega) (by omega)) (fun h9 => absurd (by decide) h9) (fun c_601 => ?_)
                    refine z_iload C dL_law_604 0 rfl ?_
                    refine z_if_ge C 629 dL_law_606 (by decide) (zle_0N (by omega)) (fun c_606 => ?_) (fun h9 => absurd trivial h9)
                    refine z_aload_n C dL_law_629 2 rfl ?_
                    refine z_iload C dL_law_630 14 rfl ?_
                    refine z_iconst C (nI 5) dL_law_632 (by decide) ?_
                    refine z_callV C (zM.fl (c_X2_about l g q a bs wb pd gw ha hs d 5 (by omega) (by omega)) (wS g p a sm ++ [(x108, .inl (zI g, zNd a, .inl (fun d => nI (zWc a (zNb a) d))))])) (cwV 2 C.ts gL_law_X2_about rfl rfl rfl (by decide +kernel) ⟨Nat.le_of_ble_eq_true rfl, Nat.le_of_ble_eq_true rfl⟩) (zapp_l wB_o) rfl rfl rfl (Nat.le_of_ble_eq_true rfl) dL_law_633 ⟨by show (_ : Nat) ≤ 689705; (try dsimp only); omega, by show (_ : Nat) ≤ 7032353; (try dsimp only); omega⟩ ?_
                    rintro _ _ ⟨_, ⟨rfl, rfl⟩, rfl⟩
                    refine zW.eqst (st2 := [.int (iZ (aAbout a d 5))]) rfl ?_
                    refine zW.top (y := iZ ((zFw a (2 ^ d)).1)) (congrArg iZ (zGw_d (by omega))) ?_
                    refine z_iload C dL_law_636 8 rfl ?_
                    refine z_icmp_gt C 651 dL_law_638 (by decide) (zlt_ZZ (x := ((zFw a 0).1)) (y := ((zFw a (2 ^ d)).1)) (by unfold zB31; omega) (by unfold zB31; omega)) (fun h9 => absurd h9 (by have := zGw_le ha d; omega)) (fun c_638 => ?_)
                    refine z_aload_n C dL_law_641 2 rfl ?_
                    refine z_iload C dL_law_642 14 rfl ?_
                    refine z_iconst C (nI 5) dL_law_644 (by decide) ?_
                    refine z_callV C (zM.fl (c_X2_about l g q a bs wb pd gw ha hs d 5 (by omega) (by omega)) (wS g p a sm ++ [(x108, .inl (zI g, zNd a, .inl (fun d => nI (zWc a (zNb a) d))))])) (cwV 2 C.ts gL_law_X2_about rfl rfl rfl (by decide +kernel) ⟨Nat.le_of_ble_eq_true rfl, Nat.le_of_ble_eq_true rfl⟩) (zapp_l wB_o) rfl rfl rfl (Nat.le_of_ble_eq_true rfl) dL_law_645 ⟨by show (_ : Nat) ≤ 689705; (try dsimp only); omega, by show (_ : Nat) ≤ 7032353; (try dsimp only); omega⟩ ?_
                    rintro _ _ ⟨_, ⟨rfl, rfl⟩, rfl⟩
                    refine zW.eqst (st2 := [.int (iZ (aAbout a d 5))]) rfl ?_
                    refine zW.top (y := iZ ((zFw a (2 ^ d)).1)) (congrArg iZ (zGw_d (by omega))) ?_
                    refine z_if_ge C 653 dL_law_648 (by decide) (zle_0Z (by unfold zB31; omega)) (fun c_648 => ?_) (fun h9 => absurd (by omega) h9)
                    refine z_iload C dL_law_653 0 rfl ?_
                    refine z_if_lt C 702 dL_law_655 (by decide) (zlt_N0 (by omega)) (fun h9 => absurd h9 (fun h => h)) (fun c_655 => ?_)
                    refine z_aload_n C dL_law_658 2 rfl ?_
                    refine z_iload C dL_law_659 14 rfl ?_
                    refine z_iconst C (nI 3) dL_law_661 (by decide) ?_
                    refine z_callV C (zM.fl (c_X2_about l g q a bs wb pd gw ha hs d 3 (by omega) (by omega)) (wS g p a sm ++ [(x108, .inl (zI g, zNd a, .inl (fun d => nI (zWc a (zNb a) d))))])) (cwV 2 C.ts gL_law_X2_about rfl rfl rfl (by decide +kernel) ⟨Nat.le_of_ble_eq_true rfl, Nat.le_of_ble_eq_true rfl⟩) (zapp_l wB_o) rfl rfl rfl (Nat.le_of_ble_eq_true rfl) dL_law_662 ⟨by show (_ : Nat) ≤ 689705; (try dsimp only); omega, by show (_ : Nat) ≤ 7032353; (try dsimp only); omega⟩ ?_
                    rintro _ _ ⟨_, ⟨rfl, rfl⟩, rfl⟩
                    refine zW.eqst (st2 := [.int (iZ (aAbout a d 3))]) rfl ?_
                    refine zW.top (y := iZ (aPaid a d)) rfl ?_
                    refine z_aload_n C dL_law_665 2 rfl ?_
                    refine z_iload C dL_law_666 0 rfl ?_
                    refine z_iconst C (nI 2) dL_law_668 (by decide) ?_
                    refine z_callV C (zM.fl (c_X2_told l g q a bs wb pd gw ha hs c 2 (by omega) (by omega)) (wS g p a sm ++ [(x108, .inl (zI g, zNd a, .inl (fun d => nI (zWc a (zNb a) d))))])) (cwV 2 C.ts gL_law_X2_told rfl rfl rfl (by decide +kernel) ⟨Nat.le_of_ble_eq_true rfl, Nat.le_of_ble_eq_true rfl⟩) (zapp_l wB_o) rfl rfl rfl (Nat.le_of_ble_eq_true rfl) dL_law_669 ⟨by show (_ : Nat) ≤ 689705; (try dsimp only); omega, by show (_ : Nat) ≤ 7032353; (try dsimp only); omega⟩ ?_
                    rintro _ _ ⟨_, ⟨rfl, rfl⟩, rfl⟩
                    refine zW.eqst (st2 := [.int (iZ (aTold a c 2)), .int (iZ (aPaid a d))]) rfl ?_
                    refine zW.top (y := nI (zPr a c)) rfl ?_
                    refine z_aload_n C dL_law_672 2 rfl ?_
                    refine z_iload C dL_law_673 0 rfl ?_
                    refine z_iconst C (nI 5) dL_law_675 (by decide) ?_
                    refine z_callV C (zM.fl (c_X2_told l g q a bs wb pd gw ha hs c 5 (by omega) (by omega)) (wS g p a sm ++ [(x108, .inl (zI g, zNd a, .inl (fun d => nI (zWc a (zNb a) d))))])) (cwV 2 C.ts gL_law_X2_told rfl rfl rfl (by decide +kernel) ⟨Nat.le_of_ble_eq_true rfl, Nat.le_of_ble_eq_true rfl⟩) (zapp_l wB_o) rfl rfl rfl (Nat.le_of_ble_eq_true rfl) dL_law_676 ⟨by show (_ : Nat) ≤ 689705; (try dsimp only); omega, by show (_ : Nat) ≤ 7032353; (try dsimp only); omega⟩ ?_
                    rintro _ _ ⟨_, ⟨rfl, rfl⟩, rfl⟩
                    refine zW.eqst (st2 := [.int (iZ (aTold a c 5)), .int (nI (zPr a c)), .int (iZ (aPaid a d))]) rfl ?_
                    refine zW.top (y := iZ (zGn a c)) rfl ?_
                    refine z_isub C dL_law_679 (v := iZ (((zPr a c : Nat) : Int) - (zGn a c))) (iZ_sub ((zPr a c : Nat) : Int) (zGn a c)) ?_
                    refine z_icmp_lt C 700 dL_law_680 (by decide) (zlt_ZZ (x := (aPaid a d)) (y := (((zPr a c : Nat) : Int) - (zGn a c))) (by unfold zB31; omega) (by unfold zB31; omega)) (fun h9 => absurd h9 (by omega)) (fun c_680 => ?_)
                    refine z_aload_n C dL_law_683 2 rfl ?_
                    refine z_iload C dL_law_684 14 rfl ?_
                    refine z_iconst C (nI 3) dL_law_686 (by decide) ?_
                    refine z_callV C (zM.fl (c_X2_about l g q a bs wb pd gw ha hs d 3 (by omega) (by omega)) (wS g p a sm ++ [(x108, .inl (zI g, zNd a, .inl (fun d => nI (zWc a (zNb a) d))))])) (cwV 2 C.ts gL_law_X2_about rfl rfl rfl (by decide +kernel) ⟨Nat.le_of_ble_eq_true rfl, Nat.le_of_ble_eq_true rfl⟩) (zapp_l wB_o) rfl rfl rfl (Nat.le_of_ble_eq_true rfl) dL_law_687 ⟨by show (_ : Nat) ≤ 689705; (try dsimp only); omega, by show (_ : Nat) ≤ 7032353; (try dsimp only); omega⟩ ?_
                    rintro _ _ ⟨_, ⟨rfl, rfl⟩, rfl⟩
                    refine zW.eqst (st2 := [.int (iZ (aAbout a d 3))]) rfl ?_
                    refine zW.top (y := iZ (aPaid a d)) rfl ?_
                    refine z_aload_n C dL_law_690 2 rfl ?_
                    refine z_iload C dL_law_691 0 rfl ?_
                    refine z_iconst C (nI 2) dL_law_693 (by decide) ?_
                    refine z_callV C (zM.fl (c_X2_told l g q a bs wb pd gw ha hs c 2 (by omega) (by omega)) (wS g p a sm ++ [(x108, .inl (zI g, zNd a, .inl (fun d => nI (zWc a (zNb a) d))))])) (cwV 2 C.ts gL_law_X2_told rfl rfl rfl (by decide +kernel) ⟨Nat.le_of_ble_eq_true rfl, Nat.le_of_ble_eq_true rfl⟩) (zapp_l wB_o) rfl rfl rfl (Nat.le_of_ble_eq_true rfl) dL_law_694 ⟨by show (_ : Nat) ≤ 689705; (try dsimp only); omega, by show (_ : Nat) ≤ 7032353; (try dsimp only); omega⟩ ?_
                    rintro _ _ ⟨_, ⟨rfl, rfl⟩, rfl⟩
                    refine zW.eqst (st2 := [.int (iZ (aTold a c 2)), .int (iZ (aPaid a d))]) rfl ?_
                    refine zW.top (y := nI (zPr a c)) rfl ?_
                    refine z_icmp_le C 702 dL_law_697 (by decide) (zle_ZZ (x := (aPaid a d)) (y := ((zPr a c : Nat) : Int)) (by unfold zB31; omega) (by unfold zB31; omega)) (fun c_697 => ?_) (fun h9 => absurd (by omega) h9)
                    refine z_iload C dL_law_702 0 rfl ?_
                    refine z_if_ge C 721 dL_law_704 (by decide) (zle_0N (by omega)) (fun c_704 => ?_) (fun h9 => absurd trivial h9)
                    refine z_iload C dL_law_721 12 rfl ?_
                    refine z_aload_n C dL_law_723 2 rfl ?_
                    refine z_iload C dL_law_724 14 rfl ?_
                    refine z_iconst C (nI 3) dL_law_726 (by decide) ?_
                    refine z_callV C (zM.fl (c_X2_about l g q a bs wb pd gw ha hs d 3 (by omega) (by omega)) (wS g p a sm ++ [(x108, .inl (zI g, zNd a, .inl (fun d => nI (zWc a (zNb a) d))))])) (cwV 2 C.ts gL_law_X2_about rfl rfl rfl (by decide +kernel) ⟨Nat.le_of_ble_eq_true rfl, Nat.le_of_ble_eq_true rfl⟩) (zapp_l wB_o) rfl rfl rfl (Nat.le_of_ble_eq_true rfl) dL_law_727 ⟨by show (_ : Nat) ≤ 689705; (try dsimp only); omega, by show (_ : Nat) ≤ 7032353; (try dsimp only); omega⟩ ?_
                    rintro _ _ ⟨_, ⟨rfl, rfl⟩, rfl⟩
                    refine zW.eqst (st2 := [.int (iZ (aAbout a d 3)), .int (iZ (zSi (aPaid a) d))]) rfl ?_
                    refine zW.top (y := iZ (aPaid a d)) rfl ?_
                    refine z_iadd C dL_law_730 (v := iZ ((zSi (aPaid a) d) + (aPaid a d))) (iZ_add (zSi (aPaid a) d) (aPaid a d)) ?_
                    refine z_istore C dL_law_731 (by decide) [(13, .int (iZ ((zSi (aPaid a) d) + (aPaid a d)))), (16, .int (nI c)), (0, .ref b), (1, .ref (q 0)), (2, .ref (p 0)), (3, .int (nI t)), (5, .int (nI (zNb a))), (6, .int (nI (zNd a))), (7, .int (nI (aSold a))), (8, .int (iZ ((zFw a 0).1))), (10, .int (nI (zPop (zFw a 0).2 12))), (11, .ref x108), (12, .int (nI (zPop (aSold a) (zNf a)))), (14, .int (iZ (zSi (aProf a) d))), (15, .int (nI d))] rfl ?_
                    refine z_iload C dL_law_733 13 rfl ?_
                    refine z_aload_n C dL_law_735 3 rfl ?_
                    refine z_iload C dL_law_736 14 rfl ?_
                    refine z_iconst C (nI 4) dL_law_738 (by decide) ?_
                    refine z_callV C (zM.fl (c_X2_about l g q a bs wb pd gw ha hs d 4 (by omega) (by omega)) (wS g p a sm ++ [(x108, .inl (zI g, zNd a, .inl (fun d => nI (zWc a (zNb a) d))))])) (cwV 2 C.ts gL_law_X2_about rfl rfl rfl (by decide +kernel) ⟨Nat.le_of_ble_eq_true rfl, Nat.le_of_ble_eq_true rfl⟩) (zapp_l wB_o) rfl rfl rfl (Nat.le_of_ble_eq_true rfl) dL_law_739 ⟨by show (_ : Nat) ≤ 689705; (try dsimp only); omega, by show (_ : Nat) ≤ 7032353; (try dsimp only); omega⟩ ?_
                    rintro _ _ ⟨_, ⟨rfl, rfl⟩, rfl⟩
                    refine zW.eqst (st2 := [.int (iZ (aAbout a d 4)), .int (iZ (zSi (aProf a) d))]) rfl ?_
                    refine zW.top (y := iZ (aProf a d)) rfl ?_
                    refine z_iadd C dL_law_742 (v := iZ ((zSi (aProf a) d) + (aProf a d))) (iZ_add (zSi (aProf a) d) (aProf a d)) ?_
                    refine z_istore C dL_law_743 (by decide) [(14, .int (iZ ((zSi (aProf a) d) + (aProf a d)))), (13, .int (iZ ((zSi (aPaid a) d) + (aPaid a d)))), (16, .int (nI c)), (0, .ref b), (1, .ref (q 0)), (2, .ref (p 0)), (3, .int (nI t)), (5, .int (nI (zNb a))), (6, .int (nI (zNd a))), (7, .int (nI (aSold a))), (8, .int (iZ ((zFw a 0).1))), (10, .int (nI (zPop (zFw a 0).2 12))), (11, .ref x108), (12, .int (nI (zPop (aSold a) (zNf a)))), (15, .int (nI d))] rfl ?_
                    refine z_iinc C dL_law_745 14 (nI (d + 1)) rfl (nI_add d 1) (by decide) [(15, .int (nI (d + 1))), (14, .int (iZ ((zSi (aProf a) d) + (aProf a d)))), (13, .int (iZ ((zSi (aPaid a) d) + (aPaid a d)))), (16, .int (nI c)), (0, .ref b), (1, .ref (q 0)), (2, .ref (p 0)), (3, .int (nI t)), (5, .int (nI (zNb a))), (6, .int (nI (zNd a))), (7, .int (nI (aSold a))), (8, .int (iZ ((zFw a 0).1))), (10, .int (nI (zPop (zFw a 0).2 12))), (11, .ref x108), (12, .int (nI (zPop (aSold a) (zNf a))))] rfl ?_
                    refine z_goto C 562 dL_law_748 (by decide) ?_
                    refine zW.pick (lv' := [(0, .ref b), (1, .ref (q 0)), (2, .ref (p 0)), (3, .int (nI t)), (5, .int (nI (zNb a))), (6, .int (nI (zNd a))), (7, .int (nI (aSold a))), (8, .int (iZ ((zFw a 0).1))), (10, .int (nI (zPop (zFw a 0).2 12))), (11, .ref x108), (12, .int (nI (zPop (aSold a) (zNf a)))), (13, .int (iZ ((zSi (aPaid a) d) + (aPaid a d)))), (14, .int (iZ ((zSi (aProf a) d) + (aProf a d)))), (15, .int (nI (d + 1)))]) [4, 5, 6, 7, 8, 9, 10, 11, 12, 13, 14, 2, 1, 0] rfl ?_
                    refine zW.lve (lv' := [(0, .ref b), (1, .ref (q 0)), (2, .ref (p 0)), (3, .int (nI t)), (5, .int (nI (zNb a))), (6, .int (nI (zNd a))), (7, .int (nI (aSold a))), (8, .int (iZ ((zFw a 0).1))), (10, .int (nI (zPop (zFw a 0).2 12))), (11, .ref x108), (12, .int (nI (zPop (aSold a) (zNf a)))), (13, .int (iZ (zSi (aPaid a) (d + 1)))), (14, .int (iZ (zSi (aProf a) (d + 1)))), (15, .int (nI (d + 1)))]) (rfl) ?_
                    exact ih562 (d + 1) (by omega)
              exact hlp562 (zNd a) 0 (by omega)
            | succ kf ih458 =>
              intro f hfk
              have hsb := aSold_lt ha
              have hsd : aSold a / 2 ^ f ≤ aSold a := Nat.div_le_self _ _
              refine z_iload C dL_law_458 11 rfl ?_
              refine z_aload_n C dL_law_460 1 rfl ?_
              refine z_iconst C (nI 0) dL_law_461 (by decide) ?_
              refine z_callV C (zM.fl (c_X2_count l g q a bs wb pd gw ha hs 0 (by omega)) (wS g p a sm ++ [(x108, .inl (zI g, zNd a, .inl (fun d => nI (zWc a (zNb a) d))))])) (cwV 1 C.ts gL_law_X2_count rfl rfl rfl (by decide +kernel) ⟨Nat.le_of_ble_eq_true rfl, Nat.le_of_ble_eq_true rfl⟩) (zapp_l wB_o) rfl rfl rfl (Nat.le_of_ble_eq_true rfl) dL_law_462 ⟨by show (_ : Nat) ≤ 689705; (try dsimp only); omega, by show (_ : Nat) ≤ 7032353; (try dsimp only); omega⟩ ?_
              rintro _ _ ⟨_, ⟨rfl, rfl⟩, rfl⟩
              refine zW.eqst (st2 := [.int (iZ (aCount a 0)), .int (nI f)]) rfl ?_
              refine zW.top (y := nI (zNf a)) rfl ?_
              refine z_icmp_ge C 553 dL_law_465 (by decide) (zle_NN (by omega) (by omega)) (fun h9 => absurd h9 (by omega)) (fun c_465 => ?_)
              refine z_aload_n C dL_law_468 1 rfl ?_
              refine z_iload C dL_law_469 11 rfl ?_
              refine z_iconst C (nI 1) dL_law_471 (by decide) ?_
              refine z_callV C (zM.fl (c_X2_land l g q a bs wb pd gw ha hs f 1 (by omega) (by omega)) (wS g p a sm ++ [(x108, .inl (zI g, zNd a, .inl (fun d => nI (zWc a (zNb a) d))))])) (cwV 2 C.ts gL_law_X2_land rfl rfl rfl (by decide +kernel) ⟨Nat.le_of_ble_eq_true rfl, Nat.le_of_ble_eq_true rfl⟩) (zapp_l wB_o) rfl rfl rfl (Nat.le_of_ble_eq_true rfl) dL_law_472 ⟨by show (_ : Nat) ≤ 689705; (try dsimp only); omega, by show (_ : Nat) ≤ 7032353; (try dsimp only); omega⟩ ?_
              rintro _ _ ⟨_, ⟨rfl, rfl⟩, rfl⟩
              refine zW.eqst (st2 := [.int (iZ (aLand a f 1))]) rfl ?_
              rcases aLand_cases a f with ⟨hl, hfb⟩ | ⟨c, hc, hl, hS, hcf, hfb⟩
              · skip
                refine zW.top (y := iZ (-1)) (congrArg iZ hl) ?_
                refine z_istore C dL_law_475 (by decide) [(14, .int (iZ (-1))), (0, .ref b), (1, .ref (q 0)), (2, .ref (p 0)), (3, .int (nI t)), (5, .int (nI (zNb a))), (6, .int (nI (zNd a))), (7, .int (nI (aSold a))), (8, .int (iZ ((zFw a 0).1))), (10, .int (nI (zPop (zFw a 0).2 12))), (11, .ref x108), (12, .int (nI (zPop (aSold a) f))), (13, .int (nI f))] rfl ?_
                refine z_iload C dL_law_477 11 rfl ?_
                refine z_iload C dL_law_479 0 rfl ?_
                refine z_if_ge C 488 dL_law_481 (by decide) (zle_0Z (by unfold zB31; omega)) (fun h9 => absurd h9 (by decide)) (fun c_481 => ?_)
                refine z_iconst C (nI 0) dL_law_484 (by decide) ?_
                refine z_goto C 489 dL_law_485 (by decide) ?_
                refine z_iadd C dL_law_489 (v := nI ((zPop (aSold a) f) + 0)) (nI_add (zPop (aSold a) f) 0) ?_
                refine z_istore C dL_law_490 (by decide) [(12, .int (nI ((zPop (aSold a) f) + 0))), (14, .int (iZ (-1))), (0, .ref b), (1, .ref (q 0)), (2, .ref (p 0)), (3, .int (nI t)), (5, .int (nI (zNb a))), (6, .int (nI (zNd a))), (7, .int (nI (aSold a))), (8, .int (iZ ((zFw a 0).1))), (10, .int (nI (zPop (zFw a 0).2 12))), (11, .ref x108), (13, .int (nI f))] rfl ?_
                refine z_iload C dL_law_492 1 rfl ?_
                refine z_if_ge C 501 dL_law_494 (by decide) (zle_0Z (by unfold zB31; omega)) (fun h9 => absurd h9 (by decide)) (fun c_494 => ?_)
                refine z_iconst C (nI 1) dL_law_497 (by decide) ?_
                refine z_goto C 502 dL_law_498 (by decide) ?_
                refine z_iload C dL_law_502 8 rfl ?_
                refine z_iload C dL_law_504 12 rfl ?_
                refine z_ishr C dL_law_506 (v := nI ((aSold a) / 2 ^ f)) (zshr_NN (by omega) (by omega)) ?_
                refine z_iconst C (nI 1) dL_law_507 (by decide) ?_
                refine z_iand C dL_law_508 (v := bI ((aSold a).testBit f)) zbit_and ?_
                refine z_if_ne C 516 dL_law_509 (by decide) (zeq_B0 _) (fun h9 => absurd hfb h9) (fun c_509 => ?_)
                refine z_iconst C (nI 1) dL_law_512 (by decide) ?_
                refine z_goto C 517 dL_law_513 (by decide) ?_
                refine z_icmp_ne C 545 dL_law_517 (by decide) (zeq_NN (by omega) (by omega)) (fun h9 => absurd (by decide) h9) (fun c_517 => ?_)
                refine z_iload C dL_law_520 1 rfl ?_
                refine z_if_lt C 547 dL_law_522 (by decide) (zlt_Z0 (by unfold zB31; omega)) (fun c_522 => ?_) (fun h9 => absurd (by decide) h9)
                refine z_iinc C dL_law_547 12 (nI (f + 1)) rfl (nI_add f 1) (by decide) [(13, .int (nI (f + 1))), (12, .int (nI ((zPop (aSold a) f) + 0))), (14, .int (iZ (-1))), (0, .ref b), (1, .ref (q 0)), (2, .ref (p 0)), (3, .int (nI t)), (5, .int (nI (zNb a))), (6, .int (nI (zNd a))), (7, .int (nI (aSold a))), (8, .int (iZ ((zFw a 0).1))), (10, .int (nI (zPop (zFw a 0).2 12))), (11, .ref x108)] rfl ?_
                refine z_goto C 458 dL_law_550 (by decide) ?_
                refine zW.pick (lv' := [(0, .ref b), (1, .ref (q 0)), (2, .ref (p 0)), (3, .int (nI t)), (5, .int (nI (zNb a))), (6, .int (nI (zNd a))), (7, .int (nI (aSold a))), (8, .int (iZ ((zFw a 0).1))), (10, .int (nI (zPop (zFw a 0).2 12))), (11, .ref x108), (12, .int (nI ((zPop (aSold a) f) + 0))), (13, .int (nI (f + 1)))]) [3, 4, 5, 6, 7, 8, 9, 10, 11, 12, 1, 0] rfl ?_
                refine zW.lve (lv' := [(0, .ref b), (1, .ref (q 0)), (2, .ref (p 0)), (3, .int (nI t)), (5, .int (nI (zNb a))), (6, .int (nI (zNd a))), (7, .int (nI (aSold a))), (8, .int (iZ ((zFw a 0).1))), (10, .int (nI (zPop (zFw a 0).2 12))), (11, .ref x108), (12, .int (nI (zPop (aSold a) (f + 1)))), (13, .int (nI (f + 1)))]) (by rw [zPop_n (S := aSold a) (n := f) (by rw [hfb]; decide)] <;> rfl) ?_
                exact ih458 (f + 1) (by omega)
              · skip
                refine zW.top (y := nI (zOw a c)) (congrArg iZ hl) ?_
                have how := ha.ow hc
                have hbu := ha.bu8 hc
                have hbd9 : zBu a c / 2 ^ f ≤ zBu a c := Nat.div_le_self _ _
                refine z_istore C dL_law_475 (by decide) [(14, .int (nI (zOw a c))), (0, .ref b), (1, .ref (q 0)), (2, .ref (p 0)), (3, .int (nI t)), (5, .int (nI (zNb a))), (6, .int (nI (zNd a))), (7, .int (nI (aSold a))), (8, .int (iZ ((zFw a 0).1))), (10, .int (nI (zPop (zFw a 0).2 12))), (11, .ref x108), (12, .int (nI (zPop (aSold a) f))), (13, .int (nI f))] rfl ?_
                refine z_iload C dL_law_477 11 rfl ?_
                refine z_iload C dL_law_479 0 rfl ?_
                refine z_if_ge C 488 dL_law_481 (by decide) (zle_0N (by omega)) (fun c_481 => ?_) (fun h9 => absurd trivial h9)
                refine z_iconst C (nI 1) dL_law_488 (by decide) ?_
                refine z_iadd C dL_law_489 (v := nI ((zPop (aSold a) f) + 1)) (nI_add (zPop (aSold a) f) 1) ?_
                refine z_istore C dL_law_490 (by decide) [(12, .int (nI ((zPop (aSold a) f) + 1))), (14, .int (nI (zOw a c))), (0, .ref b), (1, .ref (q 0)), (2, .ref (p 0)), (3, .int (nI t)), (5, .int (nI (zNb a))), (6, .int (nI (zNd a))), (7, .int (nI (aSold a))), (8, .int (iZ ((zFw a 0).1))), (10, .int (nI (zPop (zFw a 0).2 12))), (11, .ref x108), (13, .int (nI f))] rfl ?_
                refine z_iload C dL_law_492 1 rfl ?_
                refine z_if_ge C 501 dL_law_494 (by decide) (zle_0N (by omega)) (fun c_494 => ?_) (fun h9 => absurd trivial h9)
                refine z_iconst C (nI 0) dL_law_501 (by decide) ?_
                refine z_iload C dL_law_502 8 rfl ?_
                refine z_iload C dL_law_504 12 rfl ?_
                refine z_ishr C dL_law_506 (v := nI ((aSold a) / 2 ^ f)) (zshr_NN (by omega) (by omega)) ?_
                refine z_iconst C (nI 1) dL_law_507 (by decide) ?_
                refine z_iand C dL_law_508 (v := bI ((aSold a).testBit f)) zbit_and ?_
                refine z_if_ne C 516 dL_law_509 (by decide) (zeq_B0 _) (fun c_509 => ?_) (fun h9 => absurd h9 (by rw [hfb]; decide))
                refine z_iconst C (nI 0) dL_law_516 (by decide) ?_
                refine z_icmp_ne C 545 dL_law_517 (by decide) (zeq_NN (by omega) (by omega)) (fun h9 => absurd (by decide) h9) (fun c_517 => ?_)
                refine z_iload C dL_law_520 1 rfl ?_
                refine z_if_lt C 547 dL_law_522 (by decide) (zlt_N0 (by omega)) (fun h9 => absurd h9 (fun h => h)) (fun c_522 => ?_)
                refine z_aload_n C dL_law_525 3 rfl ?_
                refine z_aload_n C dL_law_526 3 rfl ?_
                refine z_iload C dL_law_527 1 rfl ?_
                refine z_iconst C (nI 2) dL_law_529 (by decide) ?_
                refine z_callV C (zM.fl (c_X2_about l g q a bs wb pd gw ha hs (zOw a c) 2 (by omega) (by omega)) (wS g p a sm ++ [(x108, .inl (zI g, zNd a, .inl (fun d => nI (zWc a (zNb a) d))))])) (cwV 2 C.ts gL_law_X2_about rfl rfl rfl (by decide +kernel) ⟨Nat.le_of_ble_eq_true rfl, Nat.le_of_ble_eq_true rfl⟩) (zapp_l wB_o) rfl rfl rfl (Nat.le_of_ble_eq_true rfl) dL_law_530 ⟨by show (_ : Nat) ≤ 689705; (try dsimp only); omega, by show (_ : Nat) ≤ 7032353; (try dsimp only); omega⟩ ?_
                rintro _ _ ⟨_, ⟨rfl, rfl⟩, rfl⟩
                refine zW.eqst (st2 := [.int (iZ (aAbout a (zOw a c) 2)), .ref (q 0)]) rfl ?_
                refine zW.top (y := nI c) (congrArg iZ (aWin_of ha hS)) ?_
                refine z_iconst C (nI 1) dL_law_533 (by decide) ?_
                refine z_callV C (zM.fl (c_X2_told l g q a bs wb pd gw ha hs c 1 (by omega) (by omega)) (wS g p a sm ++ [(x108, .inl (zI g, zNd a, .inl (fun d => nI (zWc a (zNb a) d))))])) (cwV 2 C.ts gL_law_X2_told rfl rfl rfl (by decide +kernel) ⟨Nat.le_of_ble_eq_true rfl, Nat.le_of_ble_eq_true rfl⟩) (zapp_l wB_o) rfl rfl rfl (Nat.le_of_ble_eq_true rfl) dL_law_534 ⟨by show (_ : Nat) ≤ 689705; (try dsimp only); omega, by show (_ : Nat) ≤ 7032353; (try dsimp only); omega⟩ ?_
                rintro _ _ ⟨_, ⟨rfl, rfl⟩, rfl⟩
                refine zW.eqst (st2 := [.int (iZ (aTold a c 1))]) rfl ?_
                refine zW.top (y := nI (zBu a c)) rfl ?_
                refine z_iload C dL_law_537 12 rfl ?_
                refine z_ishr C dL_law_539 (v := nI ((zBu a c) / 2 ^ f)) (zshr_NN (by omega) (by omega)) ?_
                refine z_iconst C (nI 1) dL_law_540 (by decide) ?_
                refine z_iand C dL_law_541 (v := bI ((zBu a c).testBit f)) zbit_and ?_
                refine z_if_ne C 547 dL_law_542 (by decide) (zeq_B0 _) (fun c_542 => ?_) (fun h9 => absurd h9 (by rw [hcf]; decide))
                refine z_iinc C dL_law_547 12 (nI (f + 1)) rfl (nI_add f 1) (by decide) [(13, .int (nI (f + 1))), (12, .int (nI ((zPop (aSold a) f) + 1))), (14, .int (nI (zOw a c))), (0, .ref b), (1, .ref (q 0)), (2, .ref (p 0)), (3, .int (nI t)), (5, .int (nI (zNb a))), (6, .int (nI (zNd a))), (7, .int (nI (aSold a))), (8, .int (iZ ((zFw a 0).1))), (10, .int (nI (zPop (zFw a 0).2 12))), (11, .ref x108)] rfl ?_
                refine z_goto C 458 dL_law_550 (by decide) ?_
                refine zW.pick (lv' := [(0, .ref b), (1, .ref (q 0)), (2, .ref (p 0)), (3, .int (nI t)), (5, .int (nI (zNb a))), (6, .int (nI (zNd a))), (7, .int (nI (aSold a))), (8, .int (iZ ((zFw a 0).1))), (10, .int (nI (zPop (zFw a 0).2 12))), (11, .ref x108), (12, .int (nI ((zPop (aSold a) f) + 1))), (13, .int (nI (f + 1)))]) [3, 4, 5, 6, 7, 8, 9, 10, 11, 12, 1, 0] rfl ?_
                refine zW.lve (lv' := [(0, .ref b), (1, .ref (q 0)), (2, .ref (p 0)), (3, .int (nI t)), (5, .int (nI (zNb a))), (6, .int (nI (zNd a))), (7, .int (nI (aSold a))), (8, .int (iZ ((zFw a 0).1))), (10, .int (nI (zPop (zFw a 0).2 12))), (11, .ref x108), (12, .int (nI (zPop (aSold a) (f + 1)))), (13, .int (nI (f + 1)))]) (by rw [zPop_y hfb] <;> rfl) ?_
                exact ih458 (f + 1) (by omega)
          exact hlp458 (zNf a) 0 (by omega)
        | succ k2 ih326 =>
          intro i2 hi2k
          have hgb := zGn_bnd ha (b := i2) (by omega)
          have hbu := ha.bu8 (b := i2) (by omega)
          have how := ha.ow (b := i2) (by omega)
          refine z_iload C dL_law_326 10 rfl ?_
          refine z_iload C dL_law_328 4 rfl ?_
          refine z_icmp_ge C 452 dL_law_330 (by decide) (zle_NN (by omega) (by omega)) (fun h9 => absurd h9 (by omega)) (fun c_330 => ?_)
          refine z_aload_n C dL_law_333 1 rfl ?_
          refine z_iload C dL_law_334 10 rfl ?_
          refine z_bipush C (nI 6) dL_law_336 (by decide) ?_
          refine z_callV C (zM.fl (c_X2_told l g q a bs wb pd gw ha hs i2 6 (by omega) (by omega)) (wS g p a sm ++ [(x108, .inl (zI g, zNd a, .inl (fun d => nI (zWc a (zNb a) d))))])) (cwV 2 C.ts gL_law_X2_told rfl rfl rfl (by decide +kernel) ⟨Nat.le_of_ble_eq_true rfl, Nat.le_of_ble_eq_true rfl⟩) (zapp_l wB_o) rfl rfl rfl (Nat.le_of_ble_eq_true rfl) dL_law_338 ⟨by show (_ : Nat) ≤ 689705; (try dsimp only); omega, by show (_ : Nat) ≤ 7032353; (try dsimp only); omega⟩ ?_
          rintro _ _ ⟨_, ⟨rfl, rfl⟩, rfl⟩
          refine zW.eqst (st2 := [.int (iZ (aTold a i2 6))]) rfl ?_
          refine zW.top (y := bI (zCn a (zOu a) i2)) (bI_Z _).symm ?_
          refine z_if_ne C 347 dL_law_341 (by decide) (zeq_B0 _) (fun c_341 => ?_) (fun c_341 => ?_)
          · skip
            refine z_aload_n C dL_law_347 1 rfl ?_
            refine z_iload C dL_law_348 10 rfl ?_
            refine z_iconst C (nI 5) dL_law_350 (by decide) ?_
            refine z_callV C (zM.fl (c_X2_told l g q a bs wb pd gw ha hs i2 5 (by omega) (by omega)) (wS g p a sm ++ [(x108, .inl (zI g, zNd a, .inl (fun d => nI (zWc a (zNb a) d))))])) (cwV 2 C.ts gL_law_X2_told rfl rfl rfl (by decide +kernel) ⟨Nat.le_of_ble_eq_true rfl, Nat.le_of_ble_eq_true rfl⟩) (zapp_l wB_o) rfl rfl rfl (Nat.le_of_ble_eq_true rfl) dL_law_351 ⟨by show (_ : Nat) ≤ 689705; (try dsimp only); omega, by show (_ : Nat) ≤ 7032353; (try dsimp only); omega⟩ ?_
            rintro _ _ ⟨_, ⟨rfl, rfl⟩, rfl⟩
            refine zW.eqst (st2 := [.int (iZ (aTold a i2 5))]) rfl ?_
            refine zW.top (y := iZ (zGn a i2)) rfl ?_
            refine z_iload C dL_law_354 7 rfl ?_
            refine z_icmp_le C 361 dL_law_356 (by decide) (zle_ZZ (x := (zGn a i2)) (y := ((zFw a 0).1)) (by unfold zB31; omega) (by unfold zB31; omega)) (fun c_356 => ?_) (fun h9 => absurd (zFw_le1 ha (by omega) (by simpa using c_341)) h9)
            refine z_iconst C (nI 0) dL_law_361 (by decide) ?_
            refine z_istore C dL_law_362 (by decide) [(13, .int (nI 0)), (0, .ref b), (1, .ref (q 0)), (2, .ref (p 0)), (3, .int (nI t)), (5, .int (nI (zNb a))), (6, .int (nI (zNd a))), (7, .int (nI (aSold a))), (8, .int (iZ ((zFw a 0).1))), (10, .int (nI (zPop (zFw a 0).2 12))), (11, .ref x108), (12, .int (nI i2))] rfl ?_
            refine zW.pick (lv' := [(0, .ref b), (1, .ref (q 0)), (2, .ref (p 0)), (3, .int (nI t)), (5, .int (nI (zNb a))), (6, .int (nI (zNd a))), (7, .int (nI (aSold a))), (8, .int (iZ ((zFw a 0).1))), (10, .int (nI (zPop (zFw a 0).2 12))), (11, .ref x108), (12, .int (nI i2)), (13, .int (nI 0))]) [1, 2, 3, 4, 5, 6, 7, 8, 9, 10, 11, 0] rfl ?_
            have hlp364 : ∀ (kj j : Nat), j + kj = i2 → zW g l (room_1) E (Q) 17 (cn + 1) (sn + (zNd a)) (wB g q a (zG0 a) bs wb pd gw ++ (wS g p a sm ++ [(x108, .inl (zI g, zNd a, .inl (fun d => nI (zWc a (zNb a) d))))])) [(0, .ref b), (1, .ref (q 0)), (2, .ref (p 0)), (3, .int (nI t)), (5, .int (nI (zNb a))), (6, .int (nI (zNd a))), (7, .int (nI (aSold a))), (8, .int (iZ ((zFw a 0).1))), (10, .int (nI (zPop (zFw a 0).2 12))), (11, .ref x108), (12, .int (nI i2)), (13, .int (nI j))] [] 364 := by
              intro kj
              induction kj with
              | zero =>
                intro j hjk
                refine z_iload C dL_law_364 11 rfl ?_
                refine z_iload C dL_law_366 10 rfl ?_
                refine z_icmp_ge C 446 dL_law_368 (by decide) (zle_NN (by omega) (by omega)) (fun c_368 => ?_) (fun h9 => absurd (by omega) h9)
                refine z_iinc C dL_law_446 10 (nI (i2 + 1)) rfl (nI_add i2 1) (by decide) [(12, .int (nI (i2 + 1))), (0, .ref b), (1, .ref (q 0)), (2, .ref (p 0)), (3, .int (nI t)), (5, .int (nI (zNb a))), (6, .int (nI (zNd a))), (7, .int (nI (aSold a))), (8, .int (iZ ((zFw a 0).1))), (10, .int (nI (zPop (zFw a 0).2 12))), (11, .ref x108), (13, .int (nI j))] rfl ?_
                refine z_goto C 326 dL_law_449 (by decide) ?_
                refine zW.pick (lv' := [(0, .ref b), (1, .ref (q 0)), (2, .ref (p 0)), (3, .int (nI t)), (5, .int (nI (zNb a))), (6, .int (nI (zNd a))), (7, .int (nI (aSold a))), (8, .int (iZ ((zFw a 0).1))), (10, .int (nI (zPop (zFw a 0).2 12))), (11, .ref x108), (12, .int (nI (i2 + 1)))]) [1, 2, 3, 4, 5, 6, 7, 8, 9, 10, 0] rfl ?_
                exact ih326 (i2 + 1) (by omega)
              | succ kj ih364 =>
                intro j hjk
                have hgj := zGn_bnd ha (b := j) (by omega)
                have hbj := ha.bu8 (b := j) (by omega)
                have hoj := ha.ow (b := j) (by omega)
                refine z_iload C dL_law_364 11 rfl ?_
                refine z_iload C dL_law_366 10 rfl ?_
                refine z_icmp_ge C 446 dL_law_368 (by decide) (zle_NN (by omega) (by omega)) (fun h9 => absurd h9 (by omega)) (fun c_368 => ?_)
                refine z_aload_n C dL_law_371 1 rfl ?_
                refine z_iload C dL_law_372 11 rfl ?_
                refine z_bipush C (nI 6) dL_law_374 (by decide) ?_
                refine z_callV C (zM.fl (c_X2_told l g q a bs wb pd gw ha hs j 6 (by omega) (by omega)) (wS g p a sm ++ [(x108, .inl (zI g, zNd a, .inl (fun d => nI (zWc a (zNb a) d))))])) (cwV 2 C.ts gL_law_X2_told rfl rfl rfl (by decide +kernel) ⟨Nat.le_of_ble_eq_true rfl, Nat.le_of_ble_eq_true rfl⟩) (zapp_l wB_o) rfl rfl rfl (Nat.le_of_ble_eq_true rfl) dL_law_376 ⟨by show (_ : Nat) ≤ 689705; (try dsimp only); omega, by show (_ : Nat) ≤ 7032353; (try dsimp only); omega⟩ ?_
                rintro _ _ ⟨_, ⟨rfl, rfl⟩, rfl⟩
                refine zW.eqst (st2 := [.int (iZ (aTold a j 6))]) rfl ?_
                refine zW.top (y := bI (zCn a (zOu a) j)) (bI_Z _).symm ?_
                refine z_iconst C (nI 1) dL_law_379 (by decide) ?_
                refine z_icmp_ne C 440 dL_law_380 (by decide) (zeq_B1 _) (fun c_380 => ?_) (fun c_380 => ?_)
                · skip
                  refine z_iinc C dL_law_440 11 (nI (j + 1)) rfl (nI_add j 1) (by decide) [(13, .int (nI (j + 1))), (0, .ref b), (1, .ref (q 0)), (2, .ref (p 0)), (3, .int (nI t)), (5, .int (nI (zNb a))), (6, .int (nI (zNd a))), (7, .int (nI (aSold a))), (8, .int (iZ ((zFw a 0).1))), (10, .int (nI (zPop (zFw a 0).2 12))), (11, .ref x108), (12, .int (nI i2))] rfl ?_
                  refine z_goto C 364 dL_law_443 (by decide) ?_
                  refine zW.pick (lv' := [(0, .ref b), (1, .ref (q 0)), (2, .ref (p 0)), (3, .int (nI t)), (5, .int (nI (zNb a))), (6, .int (nI (zNd a))), (7, .int (nI (aSold a))), (8, .int (iZ ((zFw a 0).1))), (10, .int (nI (zPop (zFw a 0).2 12))), (11, .ref x108), (12, .int (nI i2)), (13, .int (nI (j + 1)))]) [1, 2, 3, 4, 5, 6, 7, 8, 9, 10, 11, 0] rfl ?_
                  exact ih364 (j + 1) (by omega)
                · skip
                  refine z_aload_n C dL_law_383 1 rfl ?_
                  refine z_iload C dL_law_384 10 rfl ?_
                  refine z_iconst C (nI 0) dL_law_386 (by decide) ?_
                  refine z_callV C (zM.fl (c_X2_told l g q a bs wb pd gw ha hs i2 0 (by omega) (by omega)) (wS g p a sm ++ [(x108, .inl (zI g, zNd a, .inl (fun d => nI (zWc a (zNb a) d))))])) (cwV 2 C.ts gL_law_X2_told rfl rfl rfl (by decide +kernel) ⟨Nat.le_of_ble_eq_true rfl, Nat.le_of_ble_eq_true rfl⟩) (zapp_l wB_o) rfl rfl rfl (Nat.le_of_ble_eq_true rfl) dL_law_387 ⟨by show (_ : Nat) ≤ 689705; (try dsimp only); omega, by show (_ : Nat) ≤ 7032353; (try dsimp only); omega⟩ ?_
                  rintro _ _ ⟨_, ⟨rfl, rfl⟩, rfl⟩
                  refine zW.eqst (st2 := [.int (iZ (aTold a i2 0))]) rfl ?_
                  refine zW.top (y := nI (zOw a i2)) rfl ?_
                  refine z_aload_n C dL_law_390 1 rfl ?_
                  refine z_iload C dL_law_391 11 rfl ?_
                  refine z_iconst C (nI 0) dL_law_393 (by decide) ?_
                  refine z_callV C (zM.fl (c_X2_told l g q a bs wb pd gw ha hs j 0 (by omega) (by omega)) (wS g p a sm ++ [(x108, .inl (zI g, zNd a, .inl (fun d => nI (zWc a (zNb a) d))))])) (cwV 2 C.ts gL_law_X2_told rfl rfl rfl (by decide +kernel) ⟨Nat.le_of_ble_eq_true rfl, Nat.le_of_ble_eq_true rfl⟩) (zapp_l wB_o) rfl rfl rfl (Nat.le_of_ble_eq_true rfl) dL_law_394 ⟨by show (_ : Nat) ≤ 689705; (try dsimp only); omega, by show (_ : Nat) ≤ 7032353; (try dsimp only); omega⟩ ?_
                  rintro _ _ ⟨_, ⟨rfl, rfl⟩, rfl⟩
                  refine zW.eqst (st2 := [.int (iZ (aTold a j 0)), .int (nI (zOw a i2))]) rfl ?_
                  refine zW.top (y := nI (zOw a j)) rfl ?_
                  refine z_icmp_eq C 440 dL_law_397 (by decide) (zeq_NN (by omega) (by omega)) (fun c_397 => ?_) (fun c_397 => ?_)
                  · skip
                    refine z_iinc C dL_law_440 11 (nI (j + 1)) rfl (nI_add j 1) (by decide) [(13, .int (nI (j + 1))), (0, .ref b), (1, .ref (q 0)), (2, .ref (p 0)), (3, .int (nI t)), (5, .int (nI (zNb a))), (6, .int (nI (zNd a))), (7, .int (nI (aSold a))), (8, .int (iZ ((zFw a 0).1))), (10, .int (nI (zPop (zFw a 0).2 12))), (11, .ref x108), (12, .int (nI i2))] rfl ?_
                    refine z_goto C 364 dL_law_443 (by decide) ?_
                    refine zW.pick (lv' := [(0, .ref b), (1, .ref (q 0)), (2, .ref (p 0)), (3, .int (nI t)), (5, .int (nI (zNb a))), (6, .int (nI (zNd a))), (7, .int (nI (aSold a))), (8, .int (iZ ((zFw a 0).1))), (10, .int (nI (zPop (zFw a 0).2 12))), (11, .ref x108), (12, .int (nI i2)), (13, .int (nI (j + 1)))]) [1, 2, 3, 4, 5, 6, 7, 8, 9, 10, 11, 0] rfl ?_
                    exact ih364 (j + 1) (by omega)
                  · skip
                    refine z_aload_n C dL_law_400 1 rfl ?_
                    refine z_iload C dL_law_401 10 rfl ?_
                    refine z_iconst C (nI 1) dL_law_403 (by decide) ?_
                    refine z_callV C (zM.fl (c_X2_told l g q a bs wb pd gw ha hs i2 1 (by omega) (by omega)) (wS g p a sm ++ [(x108, .inl (zI g, zNd a, .inl (fun d => nI (zWc a (zNb a) d))))])) (cwV 2 C.ts gL_law_X2_told rfl rfl rfl (by decide +kernel) ⟨Nat.le_of_ble_eq_true rfl, Nat.le_of_ble_eq_true rfl⟩) (zapp_l wB_o) rfl rfl rfl (Nat.le_of_ble_eq_true rfl) dL_law_404 ⟨by show (_ : Nat) ≤ 689705; (try dsimp only); omega, by show (_ : Nat) ≤ 7032353; (try dsimp only); omega⟩ ?_
                    rintro _ _ ⟨_, ⟨rfl, rfl⟩, rfl⟩
                    refine zW.eqst (st2 := [.int (iZ (aTold a i2 1))]) rfl ?_
                    refine zW.top (y := nI (zBu a i2)) rfl ?_
                    refine z_aload_n C dL_law_407 1 rfl ?_
                    refine z_iload C dL_law_408 11 rfl ?_
                    refine z_iconst C (nI 1) dL_law_410 (by decide) ?_
                    refine z_callV C (zM.fl (c_X2_told l g q a bs wb pd gw ha hs j 1 (by omega) (by omega)) (wS g p a sm ++ [(x108, .inl (zI g, zNd a, .inl (fun d => nI (zWc a (zNb a) d))))])) (cwV 2 C.ts gL_law_X2_told rfl rfl rfl (by decide +kernel) ⟨Nat.le_of_ble_eq_true rfl, Nat.le_of_ble_eq_true rfl⟩) (zapp_l wB_o) rfl rfl rfl (Nat.le_of_ble_eq_true rfl) dL_law_411 ⟨by show (_ : Nat) ≤ 689705; (try dsimp only); omega, by show (_ : Nat) ≤ 7032353; (try dsimp only); omega⟩ ?_
                    rintro _ _ ⟨_, ⟨rfl, rfl⟩, rfl⟩
                    refine zW.eqst (st2 := [.int (iZ (aTold a j 1)), .int (nI (zBu a i2))]) rfl ?_
                    refine zW.top (y := nI (zBu a j)) rfl ?_
                    refine z_iand C dL_law_414 (v := nI ((zBu a i2) &&& (zBu a j))) (zand_NN (zBu a i2) (zBu a j)) ?_
                    refine z_if_ne C 440 dL_law_415 (by decide) (zeq_N0 (by have : zBu a i2 &&& zBu a j ≤ zBu a i2 := Nat.and_le_left; omega)) (fun c_415 => ?_) (fun c_415 => ?_)
                    · skip
                      refine z_iinc C dL_law_440 11 (nI (j + 1)) rfl (nI_add j 1) (by decide) [(13, .int (nI (j + 1))), (0, .ref b), (1, .ref (q 0)), (2, .ref (p 0)), (3, .int (nI t)), (5, .int (nI (zNb a))), (6, .int (nI (zNd a))), (7, .int (nI (aSold a))), (8, .int (iZ ((zFw a 0).1))), (10, .int (nI (zPop (zFw a 0).2 12))), (11, .ref x108), (12, .int (nI i2))] rfl ?_
                      refine z_goto C 364 dL_law_443 (by decide) ?_
                      refine zW.pick (lv' := [(0, .ref b), (1, .ref (q 0)), (2, .ref (p 0)), (3, .int (nI t)), (5, .int (nI (zNb a))), (6, .int (nI (zNd a))), (7, .int (nI (aSold a))), (8, .int (iZ ((zFw a 0).1))), (10, .int (nI (zPop (zFw a 0).2 12))), (11, .ref x108), (12, .int (nI i2)), (13, .int (nI (j + 1)))]) [1, 2, 3, 4, 5, 6, 7, 8, 9, 10, 11, 0] rfl ?_
                      exact ih364 (j + 1) (by omega)
                    · skip
                      refine z_aload_n C dL_law_418 1 rfl ?_
                      refine z_iload C dL_law_419 10 rfl ?_
                      refine z_iconst C (nI 5) dL_law_421 (by decide) ?_
                      refine z_callV C (zM.fl (c_X2_told l g q a bs wb pd gw ha hs i2 5 (by omega) (by omega)) (wS g p a sm ++ [(x108, .inl (zI g, zNd a, .inl (fun d => nI (zWc a (zNb a) d))))])) (cwV 2 C.ts gL_law_X2_told rfl rfl rfl (by decide +kernel) ⟨Nat.le_of_ble_eq_true rfl, Nat.le_of_ble_eq_true rfl⟩) (zapp_l wB_o) rfl rfl rfl (Nat.le_of_ble_eq_true rfl) dL_law_422 ⟨by show (_ : Nat) ≤ 689705; (try dsimp only); omega, by show (_ : Nat) ≤ 7032353; (try dsimp only); omega⟩ ?_
                      rintro _ _ ⟨_, ⟨rfl, rfl⟩, rfl⟩
                      refine zW.eqst (st2 := [.int (iZ (aTold a i2 5))]) rfl ?_
                      refine zW.top (y := iZ (zGn a i2)) rfl ?_
                      refine z_aload_n C dL_law_425 1 rfl ?_
                      refine z_iload C dL_law_426 11 rfl ?_
                      refine z_iconst C (nI 5) dL_law_428 (by decide) ?_
                      refine z_callV C (zM.fl (c_X2_told l g q a bs wb pd gw ha hs j 5 (by omega) (by omega)) (wS g p a sm ++ [(x108, .inl (zI g, zNd a, .inl (fun d => nI (zWc a (zNb a) d))))])) (cwV 2 C.ts gL_law_X2_told rfl rfl rfl (by decide +kernel) ⟨Nat.le_of_ble_eq_true rfl, Nat.le_of_ble_eq_true rfl⟩) (zapp_l wB_o) rfl rfl rfl (Nat.le_of_ble_eq_true rfl) dL_law_429 ⟨by show (_ : Nat) ≤ 689705; (try dsimp only); omega, by show (_ : Nat) ≤ 7032353; (try dsimp only); omega⟩ ?_
                      rintro _ _ ⟨_, ⟨rfl, rfl⟩, rfl⟩
                      refine zW.eqst (st2 := [.int (iZ (aTold a j 5)), .int (iZ (zGn a i2))]) rfl ?_
                      refine zW.top (y := iZ (zGn a j)) rfl ?_
                      refine z_iadd C dL_law_432 (v := iZ ((zGn a i2) + (zGn a j))) (iZ_add (zGn a i2) (zGn a j)) ?_
                      refine z_iload C dL_law_433 7 rfl ?_
                      refine z_icmp_le C 440 dL_law_435 (by decide) (zle_ZZ (x := ((zGn a i2) + (zGn a j))) (y := ((zFw a 0).1)) (by unfold zB31; omega) (by unfold zB31; omega)) (fun c_435 => ?_) (fun h9 => absurd (zFw_le2 ha (by omega) (by omega) (by simpa using c_341) c_380 c_397 c_415) h9)
                      refine z_iinc C dL_law_440 11 (nI (j + 1)) rfl (nI_add j 1) (by decide) [(13, .int (nI (j + 1))), (0, .ref b), (1, .ref (q 0)), (2, .ref (p 0)), (3, .int (nI t)), (5, .int (nI (zNb a))), (6, .int (nI (zNd a))), (7, .int (nI (aSold a))), (8, .int (iZ ((zFw a 0).1))), (10, .int (nI (zPop (zFw a 0).2 12))), (11, .ref x108), (12, .int (nI i2))] rfl ?_
                      refine z_goto C 364 dL_law_443 (by decide) ?_
                      refine zW.pick (lv' := [(0, .ref b), (1, .ref (q 0)), (2, .ref (p 0)), (3, .int (nI t)), (5, .int (nI (zNb a))), (6, .int (nI (zNd a))), (7, .int (nI (aSold a))), (8, .int (iZ ((zFw a 0).1))), (10, .int (nI (zPop (zFw a 0).2 12))), (11, .ref x108), (12, .int (nI i2)), (13, .int (nI (j + 1)))]) [1, 2, 3, 4, 5, 6, 7, 8, 9, 10, 11, 0] rfl ?_
                      exact ih364 (j + 1) (by omega)
            exact hlp364 (i2) 0 (by omega)
          · skip
            refine z_goto C 446 dL_law_344 (by decide) ?_
            refine z_iinc C dL_law_446 10 (nI (i2 + 1)) rfl (nI_add i2 1) (by decide) [(12, .int (nI (i2 + 1))), (0, .ref b), (1, .ref (q 0)), (2, .ref (p 0)), (3, .int (nI t)), (5, .int (nI (zNb a))), (6, .int (nI (zNd a))), (7, .int (nI (aSold a))), (8, .int (iZ ((zFw a 0).1))), (10, .int (nI (zPop (zFw a 0).2 12))), (11, .ref x108)] rfl ?_
            refine z_goto C 326 dL_law_449 (by decide) ?_
            refine zW.pick (lv' := [(0, .ref b), (1, .ref (q 0)), (2, .ref (p 0)), (3, .int (nI t)), (5, .int (nI (zNb a))), (6, .int (nI (zNd a))), (7, .int (nI (aSold a))), (8, .int (iZ ((zFw a 0).1))), (10, .int (nI (zPop (zFw a 0).2 12))), (11, .ref x108), (12, .int (nI (i2 + 1)))]) [1, 2, 3, 4, 5, 6, 7, 8, 9, 10, 0] rfl ?_
            exact ih326 (i2 + 1) (by omega)
      exact hlp326 (zNb a) 0 (by omega)
    | succ k ih115 =>
      intro i hik
      have how := ha.ow (b := i) (by omega)
      have hgb := zGn_bnd ha (b := i) (by omega)
      have hwc := zWc_le a i (zOw a i)
      have hbu := ha.bu8 (b := i) (by omega)
      have hgo := ha.go (b := i) (by omega)
      refine z_iload C dL_law_115 11 rfl ?_
      refine z_iload C dL_law_117 4 rfl ?_
      refine z_icmp_ge C 290 dL_law_119 (by decide) (zle_NN (by omega) (by omega)) (fun h9 => absurd h9 (by omega)) (fun c_119 => ?_)
      refine z_aload_n C dL_law_122 1 rfl ?_
      refine z_iload C dL_law_123 11 rfl ?_
      refine z_iconst C (nI 0) dL_law_125 (by decide) ?_
      refine z_callV C (zM.fl (c_X2_told l g q a bs wb pd gw ha hs i 0 (by omega) (by omega)) (wS g p a sm ++ [(x108, .inl (zI g, zNd a, .inl (fun d => nI (zWc a i d))))])) (cwV 2 C.ts gL_law_X2_told rfl rfl rfl (by decide +kernel) ⟨Nat.le_of_ble_eq_true rfl, Nat.le_of_ble_eq_true rfl⟩) (zapp_l wB_o) rfl rfl rfl (Nat.le_of_ble_eq_true rfl) dL_law_126 ⟨by show (_ : Nat) ≤ 689705; (try dsimp only); omega, by show (_ : Nat) ≤ 7032353; (try dsimp only); omega⟩ ?_
      rintro _ _ ⟨_, ⟨rfl, rfl⟩, rfl⟩
      refine zW.eqst (st2 := [.int (iZ (aTold a i 0))]) rfl ?_
      refine zW.top (y := nI (zOw a i)) rfl ?_
      refine z_istore C dL_law_129 (by decide) [(13, .int (nI (zOw a i))), (0, .ref b), (1, .ref (q 0)), (2, .ref (p 0)), (3, .int (nI t)), (5, .int (nI (zNb a))), (6, .int (nI (zNd a))), (7, .int (nI (zOrs (fun b => if (zFw a 0).2.testBit b = true then zBu a b else 0) i))), (8, .int (iZ (zSi (fun b => if (zFw a 0).2.testBit b = true then zGn a b else 0) i))), (9, .int (nI (zSum (fun b => if (zFw a 0).2.testBit b = true then zPr a b else 0) i))), (10, .int (nI (zPop (zFw a 0).2 i))), (11, .ref x108), (12, .int (nI i))] rfl ?_
      have h176 : zW g l (room_1) E (Q) 17 (cn + 1) (sn + (zNd a)) (wB g q a (zG0 a) bs wb pd gw ++ (wS g p a sm ++ [(x108, .inl (zI g, zNd a, .inl (fun d => nI (zWc a i d))))])) [(0, .ref b), (1, .ref (q 0)), (2, .ref (p 0)), (3, .int (nI t)), (5, .int (nI (zNb a))), (6, .int (nI (zNd a))), (7, .int (nI (zOrs (fun b => if (zFw a 0).2.testBit b = true then zBu a b else 0) i))), (8, .int (iZ (zSi (fun b => if (zFw a 0).2.testBit b = true then zGn a b else 0) i))), (9, .int (nI (zSum (fun b => if (zFw a 0).2.testBit b = true then zPr a b else 0) i))), (10, .int (nI (zPop (zFw a 0).2 i))), (11, .ref x108), (12, .int (nI i)), (13, .int (nI (zOw a i)))] [] 176 := by
        refine z_aload_n C dL_law_176 1 rfl ?_
        refine z_iload C dL_law_177 11 rfl ?_
        refine z_bipush C (nI 7) dL_law_179 (by decide) ?_
        refine z_callV C (zM.fl (c_X2_told l g q a bs wb pd gw ha hs i 7 (by omega) (by omega)) (wS g p a sm ++ [(x108, .inl (zI g, zNd a, .inl (fun d => nI (zWc a i d))))])) (cwV 2 C.ts gL_law_X2_told rfl rfl rfl (by decide +kernel) ⟨Nat.le_of_ble_eq_true rfl, Nat.le_of_ble_eq_true rfl⟩) (zapp_l wB_o) rfl rfl rfl (Nat.le_of_ble_eq_true rfl) dL_law_181 ⟨by show (_ : Nat) ≤ 689705; (try dsimp only); omega, by show (_ : Nat) ≤ 7032353; (try dsimp only); omega⟩ ?_
        rintro _ _ ⟨_, ⟨rfl, rfl⟩, rfl⟩
        refine zW.eqst (st2 := [.int (iZ (aTold a i 7))]) rfl ?_
        refine zW.top (y := bI ((zFw a 0).2.testBit i)) (bI_Z _).symm ?_
        refine z_if_ne C 190 dL_law_184 (by decide) (zeq_B0 _) (fun c_184 => ?_) (fun c_184 => ?_)
        · skip
          have hS : (zFw a 0).2.testBit i = true := by simpa using c_184
          refine z_aload_n C dL_law_190 1 rfl ?_
          refine z_iload C dL_law_191 11 rfl ?_
          refine z_bipush C (nI 6) dL_law_193 (by decide) ?_
          refine z_callV C (zM.fl (c_X2_told l g q a bs wb pd gw ha hs i 6 (by omega) (by omega)) (wS g p a sm ++ [(x108, .inl (zI g, zNd a, .inl (fun d => nI (zWc a i d))))])) (cwV 2 C.ts gL_law_X2_told rfl rfl rfl (by decide +kernel) ⟨Nat.le_of_ble_eq_true rfl, Nat.le_of_ble_eq_true rfl⟩) (zapp_l wB_o) rfl rfl rfl (Nat.le_of_ble_eq_true rfl) dL_law_195 ⟨by show (_ : Nat) ≤ 689705; (try dsimp only); omega, by show (_ : Nat) ≤ 7032353; (try dsimp only); omega⟩ ?_
          rintro _ _ ⟨_, ⟨rfl, rfl⟩, rfl⟩
          refine zW.eqst (st2 := [.int (iZ (aTold a i 6))]) rfl ?_
          refine zW.top (y := bI (zCn a (zOu a) i)) (bI_Z _).symm ?_
          refine z_if_eq C 234 dL_law_198 (by decide) (zeq_B0 _) (fun h9 => absurd h9 (by rw [zFw_cn ha hS]; decide)) (fun c_198 => ?_)
          refine z_iload C dL_law_201 6 rfl ?_
          refine z_aload_n C dL_law_203 1 rfl ?_
          refine z_iload C dL_law_204 11 rfl ?_
          refine z_iconst C (nI 1) dL_law_206 (by decide) ?_
          refine z_callV C (zM.fl (c_X2_told l g q a bs wb pd gw ha hs i 1 (by omega) (by omega)) (wS g p a sm ++ [(x108, .inl (zI g, zNd a, .inl (fun d => nI (zWc a i d))))])) (cwV 2 C.ts gL_law_X2_told rfl rfl rfl (by decide +kernel) ⟨Nat.le_of_ble_eq_true rfl, Nat.le_of_ble_eq_true rfl⟩) (zapp_l wB_o) rfl rfl rfl (Nat.le_of_ble_eq_true rfl) dL_law_207 ⟨by show (_ : Nat) ≤ 689705; (try dsimp only); omega, by show (_ : Nat) ≤ 7032353; (try dsimp only); omega⟩ ?_
          rintro _ _ ⟨_, ⟨rfl, rfl⟩, rfl⟩
          refine zW.eqst (st2 := [.int (iZ (aTold a i 1)), .int (nI (zOrs (fun b => if (zFw a 0).2.testBit b = true then zBu a b else 0) i))]) rfl ?_
          refine zW.top (y := nI (zBu a i)) rfl ?_
          refine z_iand C dL_law_210 (v := nI ((zOrs (fun b => if (zFw a 0).2.testBit b = true then zBu a b else 0) i) &&& (zBu a i))) (zand_NN (zOrs (fun b => if (zFw a 0).2.testBit b = true then zBu a b else 0) i) (zBu a i)) ?_
          refine z_if_ne C 234 dL_law_211 (by decide) (zeq_N0 (by have : zOrs (fun b => if (zFw a 0).2.testBit b = true then zBu a b else 0) i &&& zBu a i ≤ zBu a i := Nat.and_le_right; omega)) (fun h9 => absurd (zOrs_dis ha hS) h9) (fun c_211 => ?_)
          refine z_aload C dL_law_214 10 rfl ?_
          refine z_iload C dL_law_216 12 rfl ?_
          refine z_ialdN C (20 + ((wS g p a sm).length + 0)) (zapp_B (zapp_r (k := 0) rfl)) (by omega) (by omega) dL_law_218 (v := nI (zWc a i (zOw a i))) rfl ?_
          refine z_if_gt C 234 dL_law_219 (by decide) (zgt_0N (by omega)) (fun h9 => absurd h9 (by rw [zWc_0 ha hS]; decide)) (fun c_219 => ?_)
          refine z_aload_n C dL_law_222 1 rfl ?_
          refine z_iload C dL_law_223 12 rfl ?_
          refine z_iconst C (nI 2) dL_law_225 (by decide) ?_
          refine z_callV C (zM.fl (c_X2_about l g q a bs wb pd gw ha hs (zOw a i) 2 (by omega) (by omega)) (wS g p a sm ++ [(x108, .inl (zI g, zNd a, .inl (fun d => nI (zWc a i d))))])) (cwV 2 C.ts gL_law_X2_about rfl rfl rfl (by decide +kernel) ⟨Nat.le_of_ble_eq_true rfl, Nat.le_of_ble_eq_true rfl⟩) (zapp_l wB_o) rfl rfl rfl (Nat.le_of_ble_eq_true rfl) dL_law_226 ⟨by show (_ : Nat) ≤ 689705; (try dsimp only); omega, by show (_ : Nat) ≤ 7032353; (try dsimp only); omega⟩ ?_
          rintro _ _ ⟨_, ⟨rfl, rfl⟩, rfl⟩
          refine zW.eqst (st2 := [.int (iZ (aAbout a (zOw a i) 2))]) rfl ?_
          refine z_iload C dL_law_229 11 rfl ?_
          refine z_icmp_eq C 236 dL_law_231 (by decide) Iff.rfl (fun c_231 => ?_) (fun h9 => absurd (congrArg iZ (aWin_of ha hS)) h9)
          refine z_iload C dL_law_236 6 rfl ?_
          refine z_aload_n C dL_law_238 1 rfl ?_
          refine z_iload C dL_law_239 11 rfl ?_
          refine z_iconst C (nI 1) dL_law_241 (by decide) ?_
          refine z_callV C (zM.fl (c_X2_told l g q a bs wb pd gw ha hs i 1 (by omega) (by omega)) (wS g p a sm ++ [(x108, .inl (zI g, zNd a, .inl (fun d => nI (zWc a i d))))])) (cwV 2 C.ts gL_law_X2_told rfl rfl rfl (by decide +kernel) ⟨Nat.le_of_ble_eq_true rfl, Nat.le_of_ble_eq_true rfl⟩) (zapp_l wB_o) rfl rfl rfl (Nat.le_of_ble_eq_true rfl) dL_law_242 ⟨by show (_ : Nat) ≤ 689705; (try dsimp only); omega, by show (_ : Nat) ≤ 7032353; (try dsimp only); omega⟩ ?_
          rintro _ _ ⟨_, ⟨rfl, rfl⟩, rfl⟩
          refine zW.eqst (st2 := [.int (iZ (aTold a i 1)), .int (nI (zOrs (fun b => if (zFw a 0).2.testBit b = true then zBu a b else 0) i))]) rfl ?_
          refine zW.top (y := nI (zBu a i)) rfl ?_
          refine z_ior C dL_law_245 (v := nI ((zOrs (fun b => if (zFw a 0).2.testBit b = true then zBu a b else 0) i) ||| (zBu a i))) (zor_NN (zOrs (fun b => if (zFw a 0).2.testBit b = true then zBu a b else 0) i) (zBu a i)) ?_
          refine z_istore C dL_law_246 (by decide) [(7, .int (nI ((zOrs (fun b => if (zFw a 0).2.testBit b = true then zBu a b else 0) i) ||| (zBu a i)))), (0, .ref b), (1, .ref (q 0)), (2, .ref (p 0)), (3, .int (nI t)), (5, .int (nI (zNb a))), (6, .int (nI (zNd a))), (8, .int (iZ (zSi (fun b => if (zFw a 0).2.testBit b = true then zGn a b else 0) i))), (9, .int (nI (zSum (fun b => if (zFw a 0).2.testBit b = true then zPr a b else 0) i))), (10, .int (nI (zPop (zFw a 0).2 i))), (11, .ref x108), (12, .int (nI i)), (13, .int (nI (zOw a i)))] rfl ?_
          refine z_iload C dL_law_248 7 rfl ?_
          refine z_aload_n C dL_law_250 2 rfl ?_
          refine z_iload C dL_law_251 11 rfl ?_
          refine z_iconst C (nI 5) dL_law_253 (by decide) ?_
          refine z_callV C (zM.fl (c_X2_told l g q a bs wb pd gw ha hs i 5 (by omega) (by omega)) (wS g p a sm ++ [(x108, .inl (zI g, zNd a, .inl (fun d => nI (zWc a i d))))])) (cwV 2 C.ts gL_law_X2_told rfl rfl rfl (by decide +kernel) ⟨Nat.le_of_ble_eq_true rfl, Nat.le_of_ble_eq_true rfl⟩) (zapp_l wB_o) rfl rfl rfl (Nat.le_of_ble_eq_true rfl) dL_law_254 ⟨by show (_ : Nat) ≤ 689705; (try dsimp only); omega, by show (_ : Nat) ≤ 7032353; (try dsimp only); omega⟩ ?_
          rintro _ _ ⟨_, ⟨rfl, rfl⟩, rfl⟩
          refine zW.eqst (st2 := [.int (iZ (aTold a i 5)), .int (iZ (zSi (fun b => if (zFw a 0).2.testBit b = true then zGn a b else 0) i))]) rfl ?_
          refine zW.top (y := iZ (zGn a i)) rfl ?_
          refine z_iadd C dL_law_257 (v := iZ ((zSi (fun b => if (zFw a 0).2.testBit b = true then zGn a b else 0) i) + (zGn a i))) (iZ_add (zSi (fun b => if (zFw a 0).2.testBit b = true then zGn a b else 0) i) (zGn a i)) ?_
          refine z_istore C dL_law_258 (by decide) [(8, .int (iZ ((zSi (fun b => if (zFw a 0).2.testBit b = true then zGn a b else 0) i) + (zGn a i)))), (7, .int (nI ((zOrs (fun b => if (zFw a 0).2.testBit b = true then zBu a b else 0) i) ||| (zBu a i)))), (0, .ref b), (1, .ref (q 0)), (2, .ref (p 0)), (3, .int (nI t)), (5, .int (nI (zNb a))), (6, .int (nI (zNd a))), (9, .int (nI (zSum (fun b => if (zFw a 0).2.testBit b = true then zPr a b else 0) i))), (10, .int (nI (zPop (zFw a 0).2 i))), (11, .ref x108), (12, .int (nI i)), (13, .int (nI (zOw a i)))] rfl ?_
          refine z_iload C dL_law_260 8 rfl ?_
          refine z_aload_n C dL_law_262 3 rfl ?_
          refine z_iload C dL_law_263 11 rfl ?_
          refine z_iconst C (nI 2) dL_law_265 (by decide) ?_
          refine z_callV C (zM.fl (c_X2_told l g q a bs wb pd gw ha hs i 2 (by omega) (by omega)) (wS g p a sm ++ [(x108, .inl (zI g, zNd a, .inl (fun d => nI (zWc a i d))))])) (cwV 2 C.ts gL_law_X2_told rfl rfl rfl (by decide +kernel) ⟨Nat.le_of_ble_eq_true rfl, Nat.le_of_ble_eq_true rfl⟩) (zapp_l wB_o) rfl rfl rfl (Nat.le_of_ble_eq_true rfl) dL_law_266 ⟨by show (_ : Nat) ≤ 689705; (try dsimp only); omega, by show (_ : Nat) ≤ 7032353; (try dsimp only); omega⟩ ?_
          rintro _ _ ⟨_, ⟨rfl, rfl⟩, rfl⟩
          refine zW.eqst (st2 := [.int (iZ (aTold a i 2)), .int (nI (zSum (fun b => if (zFw a 0).2.testBit b = true then zPr a b else 0) i))]) rfl ?_
          refine zW.top (y := nI (zPr a i)) rfl ?_
          refine z_iadd C dL_law_269 (v := nI ((zSum (fun b => if (zFw a 0).2.testBit b = true then zPr a b else 0) i) + (zPr a i))) (nI_add (zSum (fun b => if (zFw a 0).2.testBit b = true then zPr a b else 0) i) (zPr a i)) ?_
          refine z_istore C dL_law_270 (by decide) [(9, .int (nI ((zSum (fun b => if (zFw a 0).2.testBit b = true then zPr a b else 0) i) + (zPr a i)))), (8, .int (iZ ((zSi (fun b => if (zFw a 0).2.testBit b = true then zGn a b else 0) i) + (zGn a i)))), (7, .int (nI ((zOrs (fun b => if (zFw a 0).2.testBit b = true then zBu a b else 0) i) ||| (zBu a i)))), (0, .ref b), (1, .ref (q 0)), (2, .ref (p 0)), (3, .int (nI t)), (5, .int (nI (zNb a))), (6, .int (nI (zNd a))), (10, .int (nI (zPop (zFw a 0).2 i))), (11, .ref x108), (12, .int (nI i)), (13, .int (nI (zOw a i)))] rfl ?_
          refine z_aload C dL_law_272 10 rfl ?_
          refine z_iload C dL_law_274 12 rfl ?_
          refine z_dup2 C dL_law_276 rfl rfl ?_
          refine z_ialdN C (20 + ((wS g p a sm).length + 0)) (zapp_B (zapp_r (k := 0) rfl)) (by omega) (by omega) dL_law_277 (v := nI (zWc a i (zOw a i))) rfl ?_
          refine z_iconst C (nI 1) dL_law_278 (by decide) ?_
          refine z_iadd C dL_law_279 (v := nI ((zWc a i (zOw a i)) + 1)) (nI_add (zWc a i (zOw a i)) 1) ?_
          refine z_iastN C (20 + ((wS g p a sm).length + 0)) (zapp_B (zapp_r (k := 0) rfl)) (by omega) (by omega) dL_law_280 (zset_B (zapp_setk (k := 0) (by rw [zWc_y hS] <;> rfl))) ?_
          refine z_iinc C dL_law_281 9 (nI (zPop (zFw a 0).2 i + 1)) rfl (nI_add (zPop (zFw a 0).2 i) 1) (by decide) [(10, .int (nI (zPop (zFw a 0).2 i + 1))), (9, .int (nI ((zSum (fun b => if (zFw a 0).2.testBit b = true then zPr a b else 0) i) + (zPr a i)))), (8, .int (iZ ((zSi (fun b => if (zFw a 0).2.testBit b = true then zGn a b else 0) i) + (zGn a i)))), (7, .int (nI ((zOrs (fun b => if (zFw a 0).2.testBit b = true then zBu a b else 0) i) ||| (zBu a i)))), (0, .ref b), (1, .ref (q 0)), (2, .ref (p 0)), (3, .int (nI t)), (5, .int (nI (zNb a))), (6, .int (nI (zNd a))), (11, .ref x108), (12, .int (nI i)), (13, .int (nI (zOw a i)))] rfl ?_
          refine z_iinc C dL_law_284 11 (nI (i + 1)) rfl (nI_add i 1) (by decide) [(12, .int (nI (i + 1))), (10, .int (nI (zPop (zFw a 0).2 i + 1))), (9, .int (nI ((zSum (fun b => if (zFw a 0).2.testBit b = true then zPr a b else 0) i) + (zPr a i)))), (8, .int (iZ ((zSi (fun b => if (zFw a 0).2.testBit b = true then zGn a b else 0) i) + (zGn a i)))), (7, .int (nI ((zOrs (fun b => if (zFw a 0).2.testBit b = true then zBu a b else 0) i) ||| (zBu a i)))), (0, .ref b), (1, .ref (q 0)), (2, .ref (p 0)), (3, .int (nI t)), (5, .int (nI (zNb a))), (6, .int (nI (zNd a))), (11, .ref x108), (13, .int (nI (zOw a i)))] rfl ?_
          refine z_goto C 115 dL_law_287 (by decide) ?_
          refine zW.pick (lv' := [(0, .ref b), (1, .ref (q 0)), (2, .ref (p 0)), (3, .int (nI t)), (5, .int (nI (zNb a))), (6, .int (nI (zNd a))), (7, .int (nI ((zOrs (fun b => if (zFw a 0).2.testBit b = true then zBu a b else 0) i) ||| (zBu a i)))), (8, .int (iZ ((zSi (fun b => if (zFw a 0).2.testBit b = true then zGn a b else 0) i) + (zGn a i)))), (9, .int (nI ((zSum (fun b => if (zFw a 0).2.testBit b = true then zPr a b else 0) i) + (zPr a i)))), (10, .int (nI (zPop (zFw a 0).2 i + 1))), (11, .ref x108), (12, .int (nI (i + 1)))]) [5, 6, 7, 8, 9, 10, 4, 3, 2, 1, 11, 0] rfl ?_
          refine zW.lve (lv' := [(0, .ref b), (1, .ref (q 0)), (2, .ref (p 0)), (3, .int (nI t)), (5, .int (nI (zNb a))), (6, .int (nI (zNd a))), (7, .int (nI (zOrs (fun b => if (zFw a 0).2.testBit b = true then zBu a b else 0) (i + 1)))), (8, .int (iZ (zSi (fun b => if (zFw a 0).2.testBit b = true then zGn a b else 0) (i + 1)))), (9, .int (nI (zSum (fun b => if (zFw a 0).2.testBit b = true then zPr a b else 0) (i + 1)))), (10, .int (nI (zPop (zFw a 0).2 (i + 1)))), (11, .ref x108), (12, .int (nI (i + 1)))]) (by rw [zOrs_y hS, zSi_y hS, zSum_y hS, zPop_y hS]) ?_
          exact ih115 (i + 1) (by omega)
        · skip
          refine z_goto C 284 dL_law_187 (by decide) ?_
          refine z_iinc C dL_law_284 11 (nI (i + 1)) rfl (nI_add i 1) (by decide) [(12, .int (nI (i + 1))), (0, .ref b), (1, .ref (q 0)), (2, .ref (p 0)), (3, .int (nI t)), (5, .int (nI (zNb a))), (6, .int (nI (zNd a))), (7, .int (nI (zOrs (fun b => if (zFw a 0).2.testBit b = true then zBu a b else 0) i))), (8, .int (iZ (zSi (fun b => if (zFw a 0).2.testBit b = true then zGn a b else 0) i))), (9, .int (nI (zSum (fun b => if (zFw a 0).2.testBit b = true then zPr a b else 0) i))), (10, .int (nI (zPop (zFw a 0).2 i))), (11, .ref x108), (13, .int (nI (zOw a i)))] rfl ?_
          refine z_goto C 115 dL_law_287 (by decide) ?_
          refine zW.pick (lv' := [(0, .ref b), (1, .ref (q 0)), (2, .ref (p 0)), (3, .int (nI t)), (5, .int (nI (zNb a))), (6, .int (nI (zNd a))), (7, .int (nI (zOrs (fun b => if (zFw a 0).2.testBit b = true then zBu a b else 0) i))), (8, .int (iZ (zSi (fun b => if (zFw a 0).2.testBit b = true then zGn a b else 0) i))), (9, .int (nI (zSum (fun b => if (zFw a 0).2.testBit b = true then zPr a b else 0) i))), (10, .int (nI (zPop (zFw a 0).2 i))), (11, .ref x108), (12, .int (nI (i + 1)))]) [1, 2, 3, 4, 5, 6, 7, 8, 9, 10, 11, 0] rfl ?_
          refine zW.eqw (ws2 := wB g q a (zG0 a) bs wb pd gw ++ (wS g p a sm ++ [(x108, .inl (zI g, zNd a, .inl (fun d => nI (zWc a (i + 1) d))))])) (by rw [zWc_n (by rw [c_184]; decide)]) ?_
          refine zW.lve (lv' := [(0, .ref b), (1, .ref (q 0)), (2, .ref (p 0)), (3, .int (nI t)), (5, .int (nI (zNb a))), (6, .int (nI (zNd a))), (7, .int (nI (zOrs (fun b => if (zFw a 0).2.testBit b = true then zBu a b else 0) (i + 1)))), (8, .int (iZ (zSi (fun b => if (zFw a 0).2.testBit b = true then zGn a b else 0) (i + 1)))), (9, .int (nI (zSum (fun b => if (zFw a 0).2.testBit b = true then zPr a b else 0) (i + 1)))), (10, .int (nI (zPop (zFw a 0).2 (i + 1)))), (11, .ref x108), (12, .int (nI (i + 1)))]) (by rw [zOrs_n (by rw [c_184]; decide), zSi_n (by rw [c_184]; decide), zSum_n (by rw [c_184]; decide), zPop_n (by rw [c_184]; decide)]) ?_
          exact ih115 (i + 1) (by omega)
      refine z_aload_n C dL_law_131 2 rfl ?_
      refine z_iload C dL_law_132 12 rfl ?_
      refine z_bipush C (nI 6) dL_law_134 (by decide) ?_
      refine z_callV C (zM.fl (c_X2_told l g q a bs wb pd gw ha hs i 6 (by omega) (by omega)) (wS g p a sm ++ [(x108, .inl (zI g, zNd a, .inl (fun d => nI (zWc a i d))))])) (cwV 2 C.ts gL_law_X2_told rfl rfl rfl (by decide +kernel) ⟨Nat.le_of_ble_eq_true rfl, Nat.le_of_ble_eq_true rfl⟩) (zapp_l wB_o) rfl rfl rfl (Nat.le_of_ble_eq_true rfl) dL_law_136 ⟨by show (_ : Nat) ≤ 689705; (try dsimp only); omega, by show (_ : Nat) ≤ 7032353; (try dsimp only); omega⟩ ?_
      rintro _ _ ⟨_, ⟨rfl, rfl⟩, rfl⟩
      refine zW.eqst (st2 := [.int (iZ (aTold a i 6))]) rfl ?_
      refine zW.top (y := bI (zCn a (zOu a) i)) (bI_Z _).symm ?_
      refine z_iconst C (nI 1) dL_law_139 (by decide) ?_
      refine z_icmp_ne C 176 dL_law_140 (by decide) (zeq_B1 _) (fun c_140 => ?_) (fun c_140 => ?_)
      · skip
        refine zW.pick (lv' := [(0, .ref b), (1, .ref (q 0)), (2, .ref (p 0)), (3, .int (nI t)), (5, .int (nI (zNb a))), (6, .int (nI (zNd a))), (7, .int (nI (zOrs (fun b => if (zFw a 0).2.testBit b = true then zBu a b else 0) i))), (8, .int (iZ (zSi (fun b => if (zFw a 0).2.testBit b = true then zGn a b else 0) i))), (9, .int (nI (zSum (fun b => if (zFw a 0).2.testBit b = true then zPr a b else 0) i))), (10, .int (nI (zPop (zFw a 0).2 i))), (11, .ref x108), (12, .int (nI i)), (13, .int (nI (zOw a i)))]) [1, 2, 3, 4, 5, 6, 7, 8, 9, 10, 11, 12, 0] rfl ?_
        exact h176
      · skip
        refine z_aload_n C dL_law_143 2 rfl ?_
        refine z_iload C dL_law_144 12 rfl ?_
        refine z_iconst C (nI 4) dL_law_146 (by decide) ?_
        refine z_callV C (zM.fl (c_X2_told l g q a bs wb pd gw ha hs i 4 (by omega) (by omega)) (wS g p a sm ++ [(x108, .inl (zI g, zNd a, .inl (fun d => nI (zWc a i d))))])) (cwV 2 C.ts gL_law_X2_told rfl rfl rfl (by decide +kernel) ⟨Nat.le_of_ble_eq_true rfl, Nat.le_of_ble_eq_true rfl⟩) (zapp_l wB_o) rfl rfl rfl (Nat.le_of_ble_eq_true rfl) dL_law_147 ⟨by show (_ : Nat) ≤ 689705; (try dsimp only); omega, by show (_ : Nat) ≤ 7032353; (try dsimp only); omega⟩ ?_
        rintro _ _ ⟨_, ⟨rfl, rfl⟩, rfl⟩
        refine zW.eqst (st2 := [.int (iZ (aTold a i 4))]) rfl ?_
        refine zW.top (y := nI (zGo a i)) rfl ?_
        refine z_iconst C (nI 1) dL_law_150 (by decide) ?_
        refine z_icmp_eq C 174 dL_law_151 (by decide) (zeq_NN (by omega) (by omega)) (fun h9 => absurd h9 (by have := zCn_go c_140; omega)) (fun c_151 => ?_)
        refine z_aload_n C dL_law_154 2 rfl ?_
        refine z_iload C dL_law_155 12 rfl ?_
        refine z_iconst C (nI 5) dL_law_157 (by decide) ?_
        refine z_callV C (zM.fl (c_X2_told l g q a bs wb pd gw ha hs i 5 (by omega) (by omega)) (wS g p a sm ++ [(x108, .inl (zI g, zNd a, .inl (fun d => nI (zWc a i d))))])) (cwV 2 C.ts gL_law_X2_told rfl rfl rfl (by decide +kernel) ⟨Nat.le_of_ble_eq_true rfl, Nat.le_of_ble_eq_true rfl⟩) (zapp_l wB_o) rfl rfl rfl (Nat.le_of_ble_eq_true rfl) dL_law_158 ⟨by show (_ : Nat) ≤ 689705; (try dsimp only); omega, by show (_ : Nat) ≤ 7032353; (try dsimp only); omega⟩ ?_
        rintro _ _ ⟨_, ⟨rfl, rfl⟩, rfl⟩
        refine zW.eqst (st2 := [.int (iZ (aTold a i 5))]) rfl ?_
        refine zW.top (y := iZ (zGn a i)) rfl ?_
        refine z_if_lt C 174 dL_law_161 (by decide) (zlt_Z0 (by unfold zB31; omega)) (fun h9 => absurd h9 (by have := zCn_ge c_140; omega)) (fun c_161 => ?_)
        refine z_aload_n C dL_law_164 2 rfl ?_
        refine z_iload C dL_law_165 0 rfl ?_
        refine z_iconst C (nI 0) dL_law_167 (by decide) ?_
        refine z_callV C (zM.fl (c_X2_about l g q a bs wb pd gw ha hs (zOw a i) 0 (by omega) (by omega)) (wS g p a sm ++ [(x108, .inl (zI g, zNd a, .inl (fun d => nI (zWc a i d))))])) (cwV 2 C.ts gL_law_X2_about rfl rfl rfl (by decide +kernel) ⟨Nat.le_of_ble_eq_true rfl, Nat.le_of_ble_eq_true rfl⟩) (zapp_l wB_o) rfl rfl rfl (Nat.le_of_ble_eq_true rfl) dL_law_168 ⟨by show (_ : Nat) ≤ 689705; (try dsimp only); omega, by show (_ : Nat) ≤ 7032353; (try dsimp only); omega⟩ ?_
        rintro _ _ ⟨_, ⟨rfl, rfl⟩, rfl⟩
        refine zW.eqst (st2 := [.int (iZ (aAbout a (zOw a i) 0))]) rfl ?_
        refine zW.top (y := bI (zIn a (zOw a i))) (bI_Z _).symm ?_
        refine z_if_ne C 176 dL_law_171 (by decide) (zeq_B0 _) (fun c_171 => ?_) (fun h9 => absurd h9 (by rw [zCn_in ha (by omega) c_140]; decide))
        refine zW.pick (lv' := [(0, .ref b), (1, .ref (q 0)), (2, .ref (p 0)), (3, .int (nI t)), (5, .int (nI (zNb a))), (6, .int (nI (zNd a))), (7, .int (nI (zOrs (fun b => if (zFw a 0).2.testBit b = true then zBu a b else 0) i))), (8, .int (iZ (zSi (fun b => if (zFw a 0).2.testBit b = true then zGn a b else 0) i))), (9, .int (nI (zSum (fun b => if (zFw a 0).2.testBit b = true then zPr a b else 0) i))), (10, .int (nI (zPop (zFw a 0).2 i))), (11, .ref x108), (12, .int (nI i)), (13, .int (nI (zOw a i)))]) [1, 2, 3, 4, 5, 6, 7, 8, 9, 10, 11, 12, 0] rfl ?_
        exact h176
  exact hlp115 (zNb a) 0 (by omega)
