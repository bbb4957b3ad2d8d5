theorem zapp_l {α : Type} {w x : List α} {k : Nat} {v : α} (h : w[k]? = some v) : (w ++ x)[k]? = some v := by
  rw [List.getElem?_append_left (List.getElem?_eq_some_iff.mp h).1]; exact h
theorem zapp_s {α : Type} {w w' x : List α} {k : Nat} {u v : α} (h0 : w[k]? = some u) (h : w.set k v = w') : (w ++ x).set k v = w' ++ x := by
  rw [List.set_append_left _ _ (List.getElem?_eq_some_iff.mp h0).1, h]
theorem zapp_t {g : zG} {w : va_W} {n0 q9 n : Nat} {f : Nat → Nat} (h : w.length = n0) (i x : Nat) : (w ++ [((q9, .inl (zI g, n, .inl (fun j => nI (f j)))) : Nat × va_E)]).set n0 (q9, .inl (zI g, n, .inl (upd (fun j => nI (f j)) i (nI x)))) = w ++ [(q9, .inl (zI g, n, .inl (fun j => nI (va_up f i x j))))] := by
  subst h
  rw [zup_N, List.set_append_right _ _ (Nat.le_refl _), Nat.sub_self]
  rfl
def zRow5 (d m x : Nat) : Nat → Nat := va_up (va_up (va_up (va_up (va_up (fun _ => 0) 0 d) 1 m) 2 x) 3 x) 4 0
def zBid0 (a : zS) (d m x : Nat) : zS := zSetPr (zSetWo (zSetBu (zSetOw a (zNb a) d) (zNb a) m) (zNb a) x) (zNb a) x
theorem zRw_bid {a : zS} (hg : zGo a (zNb a) = 0) (d m x : Nat) : va_cpy (fun j => nI (zRow5 d m x j)) (fun k => nI (zRw a k)) 0 (5 * zNb a) 5 = fun k => nI (zRw (zBid0 a d m x) k) := by
  funext k
  unfold va_cpy
  obtain ⟨b, r, hr, rfl⟩ : ∃ b r, r < 5 ∧ k = 5 * b + r := ⟨k / 5, k % 5, Nat.mod_lt _ (by decide), (Nat.div_add_mod k 5).symm⟩
  by_cases h : b = zNb a
  · subst h
    rw [if_pos (by omega), show 0 + (5 * zNb a + r - 5 * zNb a) = r by omega]
    rcases (show r = 0 ∨ r = 1 ∨ r = 2 ∨ r = 3 ∨ r = 4 by omega) with rfl | rfl | rfl | rfl | rfl
    · rw [zRw_0]; show nI d = nI (va_up (zOw a) (zNb a) d (zNb a)); rw [va_up_self]
    · rw [zRw_1]; show nI m = nI (va_up (zBu a) (zNb a) m (zNb a)); rw [va_up_self]
    · rw [zRw_2]; show nI x = nI (va_up (zPr a) (zNb a) x (zNb a)); rw [va_up_self]
    · rw [zRw_3]; show nI x = nI (va_up (zWo a) (zNb a) x (zNb a)); rw [va_up_self]
    · rw [zRw_4]; show nI 0 = nI (zGo a (zNb a)); rw [hg]
  · rw [if_neg (by omega)]
    show nI (zRw a (5 * b + r)) = nI (zRw (zBid0 a d m x) (5 * b + r))
    rcases (show r = 0 ∨ r = 1 ∨ r = 2 ∨ r = 3 ∨ r = 4 by omega) with rfl | rfl | rfl | rfl | rfl
    · rw [zRw_0, zRw_0]; show nI (zOw a b) = nI (va_up (zOw a) (zNb a) d b); rw [va_up_ne _ _ h]
    · rw [zRw_1, zRw_1]; show nI (zBu a b) = nI (va_up (zBu a) (zNb a) m b); rw [va_up_ne _ _ h]
    · rw [zRw_2, zRw_2]; show nI (zPr a b) = nI (va_up (zPr a) (zNb a) x b); rw [va_up_ne _ _ h]
    · rw [zRw_3, zRw_3]; show nI (zWo a b) = nI (va_up (zWo a) (zNb a) x b); rw [va_up_ne _ _ h]
    · rw [zRw_4, zRw_4]; rfl
theorem wM_copy {g : zG} {q : Nat → Nat} {th : Int} {a : zS} {la : Nat → Int} {pe : Nat → Nat} {ga : Nat → Int} {sz : Nat → Nat} (hg : zGo a (zNb a) = 0) (d m x q9 : Nat) {y : va_E} :
    (wM g q th a la pe ga sz ++ [(q9, y)]).set 2 (q 2, .inl (zI g, 60, .inl (va_cpy (fun j => nI (zRow5 d m x j)) (fun k => nI (zRw a k)) 0 (5 * zNb a) 5))) = wM g q th (zBid0 a d m x) la pe ga sz ++ [(q9, y)] := by
  rw [zRw_bid hg]; rfl
theorem inX3_bid_X3 : ∀ w ∈ wsX30, w ∈ wsX3_bid := fun w h => List.mem_cons_of_mem _ (List.mem_append_right _ (h))
set_option maxRecDepth 100000 in
set_option maxHeartbeats 4000000 in
theorem c_X3_bid (l : Launch) (g : zG) (q : Nat → Nat) (th : Int) (a : zS) (la : Nat → Int) (pe : Nat → Nat) (ga : Nat → Int) (sz : Nat → Nat) (hi9 : zInv a) (ha : zOk a) (h0 : zM0 la pe) (d m x : Nat) (hd : d < zNd a) (hm0 : 0 < m) (hm : m < 2 ^ zNf a) (hx : x ≤ 999) (hb : zNb a < 12) : zM g l yX3_bid wsX3_bid { frames := 2, cells := 1, slots := 5, locals := 60 } [.ref (q 0), .int (nI d), .int (nI m), .int (nI x)] (wM g q th a la pe ga sz) (zPie (nI (zNb a)) (zMw g q 0 (zBid a d m x))) 1 5 := by
  refine zM.of (cc := cX3_bid) (nL := 5) (ret := (some .int)) (lv := [(0, .ref (q 0)), (1, .int (nI d)), (2, .int (nI m)), (3, .int (nI x))]) (by decide) rfl (Nat.le_of_ble_eq_true rfl) rfl ?_
  intro E C0 hi
  have C : zC g E cX3_bid RX3 wsX3_bid 5 (some .int) := C0
  obtain ⟨hnf, hnd, hnb, hou, hrs, hbd⟩ := id ha
  have p8 : 2 ^ zNf a ≤ 2 ^ 8 := zp2_le hnf
  have hgn := hi9.2 (zNb a) (Nat.le_refl _)
  refine z_aload_n C dX3_bid_0 0 rfl ?_
  refine z_iconst C (nI 0) dX3_bid_1 (by decide) ?_
  refine z_put C inX3_bid_X3 tyX3_ok nmX3 0 wM_o rfl 0 (by decide) (C.w 1 rfl) rfl (tyX3_ok 0 (by decide)) rfl rfl (Nat.le_of_ble_eq_true rfl) dX3_bid_2 (wM_set_th 0) ?_
  refine z_aload_n C dX3_bid_5 0 rfl ?_
  refine z_iload_n C dX3_bid_6 1 rfl ?_
  refine z_callV C (c_X3_isBidder_ok l g q 0 a la pe ga sz ha d (by omega)) (cwV 1 C.ts gX3_bid_X3_isBidder rfl rfl rfl (by decide +kernel) ⟨Nat.le_of_ble_eq_true rfl, Nat.le_of_ble_eq_true rfl⟩) wM_o rfl rfl rfl (Nat.le_of_ble_eq_true rfl) dX3_bid_7 ⟨Nat.zero_le _, Nat.zero_le _⟩ (z_i ?_)
  refine z_if_ne C 19 dX3_bid_10 (by decide) (zeq_B0 _) (fun c_10 => ?_) (fun h9 => absurd h9 (by decide))
  refine z_iload_n C dX3_bid_19 2 rfl ?_
  refine z_if_le C 40 dX3_bid_20 (by decide) (zle_N0 (by omega)) (fun h9 => absurd h9 (by omega)) (fun c_20 => ?_)
  refine z_iload_n C dX3_bid_23 2 rfl ?_
  refine z_iconst C (nI 1) dX3_bid_24 (by decide) ?_
  refine z_aload_n C dX3_bid_25 0 rfl ?_
  refine z_get C inX3_bid_X3 0 wM_o rfl 1 (by decide) (C.w 2 rfl) rfl dX3_bid_26 ?_
  refine z_ishl C dX3_bid_29 (v := nI (2 ^ (zNf a))) (zshl_1N (by omega)) ?_
  refine z_icmp_ge C 40 dX3_bid_30 (by decide) (zle_NN (by omega) (by omega)) (fun h9 => absurd h9 (by omega)) (fun c_30 => ?_)
  refine z_iload_n C dX3_bid_33 3 rfl ?_
  refine z_callS C (c_X3_isPrice_ok l g (wM g q 0 a la pe ga sz) x (by omega)) (va_cwS 1 C.ts gX3_bid_X3_isPrice rfl rfl rfl (by decide +kernel) ⟨Nat.le_of_ble_eq_true rfl, Nat.le_of_ble_eq_true rfl⟩) rfl rfl (Nat.le_of_ble_eq_true rfl) dX3_bid_34 ⟨Nat.zero_le _, Nat.zero_le _⟩ (z_i ?_)
  refine z_if_ne C 46 dX3_bid_37 (by decide) (zeq_B0 _) (fun c_37 => ?_) (fun h9 => absurd h9 (by decide))
  refine z_aload_n C dX3_bid_46 0 rfl ?_
  refine z_get C inX3_bid_X3 0 wM_o rfl 3 (by decide) (C.w 3 rfl) rfl dX3_bid_47 ?_
  refine z_bipush C (nI 12) dX3_bid_50 (by decide) ?_
  refine z_icmp_ne C 61 dX3_bid_52 (by decide) (zeq_NN (by omega) (by omega)) (fun c_52 => ?_) (fun h9 => absurd h9 (by omega))
  refine z_iconst C (nI 5) dX3_bid_61 (by decide) ?_
  refine z_newaI C (C.w 4 rfl) (by decide) (Nat.le_of_ble_eq_true rfl) (Nat.le_of_ble_eq_true rfl) dX3_bid_62 (fun q9 => ?_)
  refine z_dup C dX3_bid_64 rfl ?_
  refine z_iconst C (nI 0) dX3_bid_65 (by decide) ?_
  refine z_iload_n C dX3_bid_66 1 rfl ?_
  refine z_iastN C 7 rfl (by omega) (by decide) dX3_bid_67 (zapp_t rfl 0 d) ?_
  refine z_dup C dX3_bid_68 rfl ?_
  refine z_iconst C (nI 1) dX3_bid_69 (by decide) ?_
  refine z_iload_n C dX3_bid_70 2 rfl ?_
  refine z_iastN C 7 rfl (by omega) (by decide) dX3_bid_71 (zapp_t rfl 1 m) ?_
  refine z_dup C dX3_bid_72 rfl ?_
  refine z_iconst C (nI 2) dX3_bid_73 (by decide) ?_
  refine z_iload_n C dX3_bid_74 3 rfl ?_
  refine z_iastN C 7 rfl (by omega) (by decide) dX3_bid_75 (zapp_t rfl 2 x) ?_
  refine z_dup C dX3_bid_76 rfl ?_
  refine z_iconst C (nI 3) dX3_bid_77 (by decide) ?_
  refine z_iload_n C dX3_bid_78 3 rfl ?_
  refine z_iastN C 7 rfl (by omega) (by decide) dX3_bid_79 (zapp_t rfl 3 x) ?_
  refine z_dup C dX3_bid_80 rfl ?_
  refine z_iconst C (nI 4) dX3_bid_81 (by decide) ?_
  refine z_iconst C (nI 0) dX3_bid_82 (by decide) ?_
  refine z_iastN C 7 rfl (by omega) (by decide) dX3_bid_83 (zapp_t rfl 4 0) ?_
  refine z_astore C dX3_bid_84 (by decide) [(4, .ref q9), (0, .ref (q 0)), (1, .int (nI d)), (2, .int (nI m)), (3, .int (nI x))] rfl ?_
  refine z_aload C dX3_bid_86 0 rfl ?_
  refine z_iconst C (nI 0) dX3_bid_88 (by decide) ?_
  refine z_aload_n C dX3_bid_89 1 rfl ?_
  refine z_get C inX3_bid_X3 0 (zapp_l wM_o) rfl 6 (by decide) (C.w 5 rfl) rfl dX3_bid_90 ?_
  refine z_iconst C (nI 5) dX3_bid_93 (by decide) ?_
  refine z_aload_n C dX3_bid_94 1 rfl ?_
  refine z_get C inX3_bid_X3 0 (zapp_l wM_o) rfl 3 (by decide) (C.w 3 rfl) rfl dX3_bid_95 ?_
  refine z_imul C dX3_bid_98 (v := nI (5 * (zNb a))) (pk_mul 5 (zNb a)) ?_
  refine z_iconst C (nI 5) dX3_bid_99 (by decide) ?_
  refine z_copyI C (C.w 6 rfl) (C.w 7 rfl) (C.w 8 rfl) (C.w 9 rfl) 7 2 rfl (zapp_l wM_rw) (by omega) (by omega) (by decide) (by decide) (Nat.le_of_ble_eq_true rfl) (Nat.le_of_ble_eq_true rfl) dX3_bid_100 (wM_copy hgn d m x q9) ?_
  refine z_aload_n C dX3_bid_103 1 rfl ?_
  refine z_dup C dX3_bid_104 rfl ?_
  refine z_get C inX3_bid_X3 0 (zapp_l wM_o) rfl 3 (by decide) (C.w 3 rfl) rfl dX3_bid_105 ?_
  refine z_iconst C (nI 1) dX3_bid_108 (by decide) ?_
  refine z_iadd C dX3_bid_109 (v := nI ((zNb (zBid0 a d m x)) + 1)) (nI_add (zNb (zBid0 a d m x)) 1) ?_
  refine z_put C inX3_bid_X3 tyX3_ok nmX3 0 (zapp_l wM_o) rfl 3 (by decide) (C.w 3 rfl) rfl (tyX3_ok 3 (by decide)) rfl rfl (Nat.le_of_ble_eq_true rfl) dX3_bid_110 (zapp_s wM_o (wM_set_nb ((zNb (zBid0 a d m x)) + 1))) ?_
  refine z_aload_n C dX3_bid_113 1 rfl ?_
  refine z_get C inX3_bid_X3 0 (zapp_l wM_o) rfl 3 (by decide) (C.w 3 rfl) rfl dX3_bid_114 ?_
  refine z_iconst C (nI 1) dX3_bid_117 (by decide) ?_
  refine z_isub C dX3_bid_118 (v := nI (zNb a)) (zsub1 _) ?_
  refine zW.fewer [] (wM g q 0 (zSetNb (zBid0 a d m x) ((zNb (zBid0 a d m x)) + 1)) la pe ga sz) _ rfl ?_
  exact z_iretE C dX3_bid_119 rfl ⟨_, _, _, _, rfl, h0⟩
