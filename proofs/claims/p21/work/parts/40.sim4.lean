theorem zapp_l {α : Type} {a b : List α} {k : Nat} {e : α} (h : a[k]? = some e) : (a ++ b)[k]? = some e := by
  rw [List.getElem?_append_left (List.getElem?_eq_some_iff.mp h).1]; exact h
theorem zapp_r {α : Type} {a b : List α} {k : Nat} {e : α} (h : b[k]? = some e) : (a ++ b)[a.length + k]? = some e := by
  rw [List.getElem?_append_right (Nat.le_add_right _ _), Nat.add_sub_cancel_left]; exact h
theorem zapp_e {α : Type} {a : List α} {e : α} : (a ++ [e])[a.length]? = some e := by
  rw [List.getElem?_append_right (Nat.le_refl _), Nat.sub_self]; rfl
theorem zapp_set {α : Type} {a : List α} {e e2 : α} : (a ++ [e]).set a.length e2 = a ++ [e2] := by
  rw [List.set_append_right _ _ (Nat.le_refl _), Nat.sub_self]; rfl
section WBX
variable {g : zG} {q : Nat → Nat} {a : zS} {G : Nat → Int} {bs : Nat → Int × Nat} {wb pd gw : Nat → Nat → Int}
theorem zapp_B {X : va_W} {k : Nat} {e : Nat × va_E} (h : X[k]? = some e) : (wB g q a G bs wb pd gw ++ X)[20 + k]? = some e := zapp_r (a := wB g q a G bs wb pd gw) h
theorem zset_B {X X' : va_W} {k : Nat} {e : Nat × va_E} (h : X.set k e = X') : (wB g q a G bs wb pd gw ++ X).set (20 + k) e = wB g q a G bs wb pd gw ++ X' := by
  rw [List.set_append_right _ _ (show (wB g q a G bs wb pd gw).length ≤ 20 + k from Nat.le_add_right 20 k), show 20 + k - (wB g q a G bs wb pd gw).length = k from Nat.add_sub_cancel_left 20 k, h]
end WBX
/-- a contract in a world with more ahead of it and behind -/
theorem zM.fm {g : zG} {l : Launch} {y : MethodName} {ws : List Cond} {rm : Room} {As : List Value} {w : va_W} {post : Option Value → va_W → Prop} {mc ms : Nat} (h : zM g l y ws rm As w post mc ms) (a c : va_W) : zM g l y ws rm As (a ++ (w ++ c)) (fun v W => ∃ w', post v w' ∧ W = a ++ (w' ++ c)) mc ms := by
  have h1 := h.fr a c
  rw [List.append_assoc] at h1
  refine h1.mono (fun v W => ?_)
  rintro ⟨w', e1, e2⟩
  exact ⟨w', e1, by rw [e2, List.append_assoc]⟩
/-- the best bid of those from i on for one field alone -/
def zHB (a : zS) (f i : Nat) (best : Int) : Prop := (best = -1 ∧ ∀ b, i ≤ b → b < zNb a → zCo a f (-1) b = false) ∨ ∃ c : Nat, i ≤ c ∧ c < zNb a ∧ best = (c : Int) ∧ zCo a f (-1) c = true ∧ ∀ b, i ≤ b → b < zNb a → zCo a f (-1) b = true → zPr a b ≤ zPr a c ∧ (b < c → zPr a b < zPr a c)
theorem zHB_0 (a : zS) (f : Nat) : zHB a f (zNb a) (-1) := Or.inl ⟨rfl, fun b h1 h2 => absurd h2 (by omega)⟩
theorem zHB_keep {a : zS} {f j : Nat} {best : Int} (h : zHB a f (j + 1) best) (hk : zCo a f (-1) j = false ∨ ∃ c : Nat, best = (c : Int) ∧ zPr a j < zPr a c) : zHB a f j best := by
  rcases h with ⟨e, h1⟩ | ⟨c, h1, h2, h3, h4, h5⟩
  · rcases hk with hk | ⟨c, hk, -⟩
    · refine Or.inl ⟨e, fun b g1 g2 => ?_⟩
      by_cases hb : b = j
      · rw [hb]; exact hk
      · exact h1 b (by omega) g2
    · omega
  · refine Or.inr ⟨c, by omega, h2, h3, h4, fun b g1 g2 g3 => ?_⟩
    by_cases hb : b = j
    · subst hb
      rcases hk with hk | ⟨c2, hk, g4⟩
      · rw [hk] at g3; cases g3
      · have e : c2 = c := by omega
        subst e
        exact ⟨by omega, fun _ => g4⟩
    · exact h5 b (by omega) g2 g3
theorem zHB_new {a : zS} {f j : Nat} {best : Int} (h : zHB a f (j + 1) best) (hj : j < zNb a) (hp : zCo a f (-1) j = true) (hk : best = -1 ∨ ∃ c : Nat, best = (c : Int) ∧ zPr a c ≤ zPr a j) : zHB a f j (j : Int) := by
  refine Or.inr ⟨j, Nat.le_refl j, hj, rfl, hp, fun b g1 g2 g3 => ?_⟩
  by_cases hb : b = j
  · subst hb; exact ⟨Nat.le_refl _, fun q => absurd q (by omega)⟩
  · rcases h with ⟨e, h1⟩ | ⟨c, h1, h2, h3, h4, h5⟩
    · rw [h1 b (by omega) g2] at g3; cases g3
    · rcases hk with hk | ⟨c2, hk, g4⟩
      · omega
      · have e : c2 = c := by omega
        subst e
        have := (h5 b (by omega) g2 g3).1
        exact ⟨by omega, fun q => absurd q (by omega)⟩
theorem zHi_spec (a : zS) (p : Nat → Bool) : ∀ n, (zHi a p n = -1 ∧ ∀ b, b < n → p b = false) ∨ ∃ c, c < n ∧ zHi a p n = (c : Int) ∧ p c = true ∧ ∀ b, b < n → p b = true → zPr a b ≤ zPr a c ∧ (b < c → zPr a b < zPr a c)
  | 0 => Or.inl ⟨rfl, fun b h => absurd h (Nat.not_lt_zero b)⟩
  | n + 1 => by
    have hz : zHi a p (n + 1) = if p n = true ∧ (zHi a p n = -1 ∨ zPr a (zHi a p n).toNat < zPr a n) then (n : Int) else zHi a p n := rfl
    rcases zHi_spec a p n with ⟨e, h1⟩ | ⟨c, h1, e, h2, h3⟩
    · by_cases hp : p n = true
      · rw [hz, if_pos ⟨hp, Or.inl e⟩]
        refine Or.inr ⟨n, by omega, rfl, hp, fun b g1 g2 => ?_⟩
        by_cases hb : b = n
        · subst hb; exact ⟨Nat.le_refl _, fun q => absurd q (by omega)⟩
        · rw [h1 b (by omega)] at g2; cases g2
      · rw [hz, if_neg (fun q => hp q.1)]
        refine Or.inl ⟨e, fun b g1 => ?_⟩
        by_cases hb : b = n
        · subst hb; simpa using hp
        · exact h1 b (by omega)
    · have e2 : (zHi a p n).toNat = c := by rw [e]; rfl
      rw [e2] at hz
      by_cases hp : p n = true ∧ zPr a c < zPr a n
      · rw [hz, if_pos ⟨hp.1, Or.inr hp.2⟩]
        refine Or.inr ⟨n, by omega, rfl, hp.1, fun b g1 g2 => ?_⟩
        by_cases hb : b = n
        · subst hb; exact ⟨Nat.le_refl _, fun q => absurd q (by omega)⟩
        · have := (h3 b (by omega) g2).1
          exact ⟨by omega, fun _ => by omega⟩
      · rw [hz, if_neg (by rintro ⟨q1, q2 | q2⟩; · omega
                           · exact hp ⟨q1, q2⟩)]
        refine Or.inr ⟨c, by omega, e, h2, fun b g1 g2 => ?_⟩
        by_cases hb : b = n
        · subst hb
          have : ¬ zPr a c < zPr a b := fun q => hp ⟨g2, q⟩
          exact ⟨by omega, fun q => absurd q (by omega)⟩
        · exact h3 b (by omega) g2
theorem zHB_top {a : zS} {f : Nat} {best : Int} (h : zHB a f 0 best) : best = aHi a f (-1) := by
  unfold aHi
  rcases h with ⟨e, h1⟩ | ⟨c, -, h2, e, h4, h5⟩ <;> rcases zHi_spec a (zCo a f (-1)) (zNb a) with ⟨e2, g1⟩ | ⟨c2, g1, e2, g2, g3⟩
  · rw [e, e2]
  · have := h1 c2 (Nat.zero_le _) g1
    rw [g2] at this; cases this
  · have := g1 c h2
    rw [h4] at this; cases this
  · have p1 := h5 c2 (Nat.zero_le _) g1 g2
    have p2 := g3 c h2 h4
    rw [e, e2]
    by_cases q : c = c2
    · rw [q]
    · rcases Nat.lt_or_gt_of_ne q with q | q
      · have := p2.2 q; omega
      · have := p1.2 q; omega
theorem mMx_s (a : zS) (f : Nat) (p : Nat → Bool) (n : Nat) : mMx a f p (n + 1) = if p n = true then max (mMx a f p n) (zPr a n) else mMx a f p n := rfl
theorem mMx_n {a : zS} {f n : Nat} {p : Nat → Bool} (h : p n = false) : mMx a f p (n + 1) = mMx a f p n := by rw [mMx_s, h]; rfl
theorem mMx_k {a : zS} {f n : Nat} {p : Nat → Bool} (h : zPr a n ≤ mMx a f p n) : mMx a f p (n + 1) = mMx a f p n := by
  rw [mMx_s]
  split
  · exact Nat.max_eq_left h
  · rfl
theorem mMx_t {a : zS} {f n : Nat} {p : Nat → Bool} (hp : p n = true) (h : mMx a f p n < zPr a n) : mMx a f p (n + 1) = zPr a n := by
  rw [mMx_s, if_pos hp]
  exact Nat.max_eq_right (by omega)
theorem zCo_t {a : zS} {f b : Nat} {lo : Int} (h1 : zCn a (zOu a) b = true) (h2 : zBu a b = 2 ^ f) (h3 : ((zOw a b : Nat) : Int) ≠ lo) : zCo a f lo b = true := by
  unfold zCo
  rw [h1, decide_eq_true h2, decide_eq_true h3]; rfl
theorem zCo_f1 {a : zS} {f b : Nat} {lo : Int} (h1 : zCn a (zOu a) b = false) : zCo a f lo b = false := by
  unfold zCo
  rw [h1]; rfl
theorem zCo_f2 {a : zS} {f b : Nat} {lo : Int} (h : ¬ zBu a b = 2 ^ f) : zCo a f lo b = false := by
  unfold zCo
  rw [decide_eq_false h]
  cases zCn a (zOu a) b <;> rfl
theorem zCo_f3 {a : zS} {f b : Nat} {lo : Int} (h : ((zOw a b : Nat) : Int) = lo) : zCo a f lo b = false := by
  unfold zCo
  rw [show decide (((zOw a b : Nat) : Int) ≠ lo) = false from decide_eq_false (fun q => q h)]
  cases zCn a (zOu a) b <;> cases decide (zBu a b = 2 ^ f) <;> rfl
theorem mMx_le {a : zS} (ha : zOk a) {f : Nat} (hf : f < zNf a) {p : Nat → Bool} : ∀ {n : Nat}, n ≤ zNb a → mMx a f p n ≤ 999
  | 0, _ => by
    have := ha.rs hf
    show zRs a f ≤ 999
    omega
  | n + 1, h => by
    have h1 := mMx_le ha hf (p := p) (n := n) (by omega)
    have h2 := ha.pr (b := n) (by omega)
    rw [mMx_s]
    split
    · exact Nat.max_le.mpr ⟨h1, h2⟩
    · exact h1
/-- what is told of one field alone, as a row -/
def zAl (a : zS) (f : Nat) : Nat → Int32 := fun j => if j < 3 then iZ (aAlone a f j) else nI 0
theorem zAl_at {a : zS} {f j : Nat} (h : j < 3) : zAl a f j = iZ (aAlone a f j) := if_pos h
theorem zAl_of {a : zS} {f : Nat} {x y z : Int32} (h0 : x = iZ (aAlone a f 0)) (h1 : y = iZ (aAlone a f 1)) (h2 : z = iZ (aAlone a f 2)) : upd (upd (upd (fun _ => nI 0) 0 x) 1 y) 2 z = zAl a f := by
  funext j
  match j with
  | 0 => exact h0
  | 1 => exact h1
  | 2 => exact h2
  | n + 3 => rfl
theorem inX3_alone_X3 : ∀ w ∈ wsX30, w ∈ wsX3_alone := fun w h => List.mem_cons_of_mem _ (List.mem_append_right _ (h))
set_option maxRecDepth 100000 in
set_option maxHeartbeats 4000000 in
theorem c_X3_alone (l : Launch) (g : zG) (q : Nat → Nat) (a : zS) (sm : Int × Nat × Nat) (ha : zOk a) (f : Nat) (hf : f < zNf a) : zM g l yX3_alone wsX3_alone { frames := 3, cells := 1, slots := 3, locals := 65 } [.ref (q 0), .int (nI f)] (wS g q a sm) ((fun v w' => ∃ x : Nat, v = some (.ref x) ∧ w' = wS g q a sm ++ [(x, .inl (zI g, 3, .inl (zAl a f)))])) 1 3 := by
  refine zM.of (cc := cX3_alone) (nL := 5) (ret := (some (.array .int))) (lv := [(0, .ref (q 0)), (1, .int (nI f))]) (by decide) rfl (Nat.le_of_ble_eq_true rfl) rfl ?_
  intro E C0 hi
  have C : zC g E cX3_alone RX3 wsX3_alone 5 (some (.array .int)) := C0
  obtain ⟨hnf, hnd, hnb, hou, hrs, hbd⟩ := id ha
  have hs0 := zFw_ok ha 0
  obtain ⟨hs1, hs2, hs3⟩ := id hs0
  have p8 : 2 ^ f ≤ 2 ^ 8 := zp2_le (by omega)
  refine z_iconst C (iZ (-1)) dX3_alone_0 (by decide) ?_
  refine z_istore_n C dX3_alone_1 (by decide) [(2, .int (iZ (-1))), (0, .ref (q 0)), (1, .int (nI f))] rfl ?_
  refine z_aload_n C dX3_alone_2 1 rfl ?_
  refine z_get C inX3_alone_X3 0 wS_o rfl 2 (by decide) (C.w 1 rfl) rfl dX3_alone_3 ?_
  refine z_alenR C 3 wS_bi dX3_alone_6 ?_
  refine z_iconst C (nI 1) dX3_alone_7 (by decide) ?_
  refine z_isub C dX3_alone_8 (v := iZ (((zNb a : Nat) : Int) - 1)) (iZ_sub ((zNb a : Nat) : Int) 1) ?_
  refine z_istore_n C dX3_alone_9 (by decide) [(3, .int (iZ (((zNb a : Nat) : Int) - 1))), (2, .int (iZ (-1))), (0, .ref (q 0)), (1, .int (nI f))] rfl ?_
  refine zW.pick (lv' := [(0, .ref (q 0)), (1, .int (nI f)), (2, .int (iZ (-1))), (3, .int (iZ (((zNb a : Nat) : Int) - 1)))]) [2, 3, 1, 0] rfl ?_
  have hlp10 : ∀ (j : Nat) (best : Int), j ≤ zNb a → zHB a f j best → zW g l ({ frames := 3, cells := 1, slots := 3, locals := 65 }) E (zMQ g E ((fun v w' => ∃ x : Nat, v = some (.ref x) ∧ w' = wS g q a sm ++ [(x, .inl (zI g, 3, .inl (zAl a f)))])) 1 3) 5 0 0 (wS g q a sm) [(0, .ref (q 0)), (1, .int (nI f)), (2, .int (iZ best)), (3, .int (iZ (((j : Nat) : Int) - 1)))] [] 10 := by
    intro j
    induction j with
    | zero =>
      intro best hj hB
      have hbb : -1 ≤ best ∧ best < 12 := by rcases hB with ⟨e, -⟩ | ⟨c, -, e1, e2, -⟩ <;> omega
      refine zW.lve (lv' := [(0, .ref (q 0)), (1, .int (nI f)), (2, .int (iZ best)), (3, .int (iZ (-1)))]) (rfl) ?_
      refine z_iload_n C dX3_alone_10 3 rfl ?_
      refine z_if_lt C 67 dX3_alone_11 (by decide) (zlt_Z0 (by unfold zB31; omega)) (fun c_11 => ?_) (fun h9 => absurd (by decide) h9)
      have hbt := zHB_top hB
      rcases zHi_or a (zCo a f (-1)) (zNb a) with hwn | ⟨c, hc, hwn, -⟩
      · skip
        have hwn : aHi a f (-1) = -1 := hwn
        refine zW.pick (lv' := [(0, .ref (q 0)), (1, .int (nI f)), (2, .int (iZ best))]) [0, 1, 2] rfl ?_
        refine zW.lve (lv' := [(0, .ref (q 0)), (1, .int (nI f)), (2, .int (iZ (-1)))]) (by rw [hbt, hwn]; try rfl) ?_
        refine z_iload_n C dX3_alone_67 2 rfl ?_
        refine z_if_ge C 87 dX3_alone_68 (by decide) (zle_0Z (by unfold zB31; omega)) (fun h9 => absurd h9 (by omega)) (fun c_68 => ?_)
        refine z_iconst C (nI 3) dX3_alone_71 (by decide) ?_
        refine z_newaI C (C.w 2 rfl) (n := 3) (by omega) (by dsimp only; omega) (by dsimp only; omega) dX3_alone_72 (fun x72 => ?_)
        refine zW.eqw (ws2 := wS g q a sm ++ [(x72, .inl (zI g, 3, .inl (fun _ => nI 0)))]) rfl ?_
        refine z_dup C dX3_alone_74 rfl ?_
        refine z_iconst C (nI 0) dX3_alone_75 (by decide) ?_
        refine z_iconst C (iZ (-1)) dX3_alone_76 (by decide) ?_
        refine z_iastN C ((wS g q a sm).length) zapp_e (by omega) (by decide) dX3_alone_77 zapp_set ?_
        refine z_dup C dX3_alone_78 rfl ?_
        refine z_iconst C (nI 1) dX3_alone_79 (by decide) ?_
        refine z_iconst C (iZ (-1)) dX3_alone_80 (by decide) ?_
        refine z_iastN C ((wS g q a sm).length) zapp_e (by omega) (by decide) dX3_alone_81 zapp_set ?_
        refine z_dup C dX3_alone_82 rfl ?_
        refine z_iconst C (nI 2) dX3_alone_83 (by decide) ?_
        refine z_iconst C (iZ (-1)) dX3_alone_84 (by decide) ?_
        refine z_iastN C ((wS g q a sm).length) zapp_e (by omega) (by decide) dX3_alone_85 zapp_set ?_
        refine z_aret (Or.inr ⟨_, rfl⟩) C dX3_alone_86 ⟨x72, rfl, ?_⟩
        rw [(zAl_of (by unfold aAlone; rw [if_pos hwn]) (by unfold aAlone; rw [if_pos hwn]) (by unfold aAlone; rw [if_pos hwn]))]
      · skip
        have hwn : aHi a f (-1) = (c : Int) := hwn
        refine zW.pick (lv' := [(0, .ref (q 0)), (1, .int (nI f)), (2, .int (iZ best))]) [0, 1, 2] rfl ?_
        refine zW.lve (lv' := [(0, .ref (q 0)), (1, .int (nI f)), (2, .int (nI c))]) (by rw [hbt, hwn]; try rfl) ?_
        refine z_iload_n C dX3_alone_67 2 rfl ?_
        refine z_if_ge C 87 dX3_alone_68 (by decide) (zle_0N (by omega)) (fun c_68 => ?_) (fun h9 => absurd trivial h9)
        refine z_aload_n C dX3_alone_87 0 rfl ?_
        refine z_get C inX3_alone_X3 0 wS_o rfl 0 (by decide) (C.w 3 rfl) rfl dX3_alone_88 ?_
        refine z_iload_n C dX3_alone_91 1 rfl ?_
        refine z_ialdN C 1 wS_rs (by omega) (by omega) dX3_alone_92 (v := nI (zRf a f)) rfl ?_
        have f_92b := zRf_le ha f
        refine zW.top (y := nI (zRs a f)) (by unfold zRf; rw [if_pos hf]) ?_
        refine z_istore_n C dX3_alone_93 (by decide) [(3, .int (nI (zRs a f))), (0, .ref (q 0)), (1, .int (nI f)), (2, .int (nI c))] rfl ?_
        refine z_iconst C (nI 0) dX3_alone_94 (by decide) ?_
        refine z_istore C dX3_alone_95 (by decide) [(4, .int (nI 0)), (3, .int (nI (zRs a f))), (0, .ref (q 0)), (1, .int (nI f)), (2, .int (nI c))] rfl ?_
        refine zW.pick (lv' := [(0, .ref (q 0)), (1, .int (nI f)), (2, .int (nI c)), (3, .int (nI (zRs a f))), (4, .int (nI 0))]) [2, 3, 4, 1, 0] rfl ?_
        have hlp97 : ∀ (k i : Nat), i + k = zNb a → zW g l ({ frames := 3, cells := 1, slots := 3, locals := 65 }) E (zMQ g E ((fun v w' => ∃ x : Nat, v = some (.ref x) ∧ w' = wS g q a sm ++ [(x, .inl (zI g, 3, .inl (zAl a f)))])) 1 3) 5 0 0 (wS g q a sm) [(0, .ref (q 0)), (1, .int (nI f)), (2, .int (nI c)), (3, .int (nI (mMx a f (zCo a f ((zOw a c : Nat) : Int)) i))), (4, .int (nI i))] [] 97 := by
          intro k
          induction k with
          | zero =>
            intro i hik
            refine z_iload C dX3_alone_97 4 rfl ?_
            refine z_aload_n C dX3_alone_99 0 rfl ?_
            refine z_get C inX3_alone_X3 0 wS_o rfl 2 (by decide) (C.w 1 rfl) rfl dX3_alone_100 ?_
            refine z_alenR C 3 wS_bi dX3_alone_103 ?_
            refine z_icmp_ge C 180 dX3_alone_104 (by decide) (zle_NN (by omega) (by omega)) (fun c_104 => ?_) (fun h9 => absurd (by omega) h9)
            refine z_iconst C (nI 3) dX3_alone_180 (by decide) ?_
            refine z_newaI C (C.w 2 rfl) (n := 3) (by omega) (by dsimp only; omega) (by dsimp only; omega) dX3_alone_181 (fun x181 => ?_)
            refine zW.eqw (ws2 := wS g q a sm ++ [(x181, .inl (zI g, 3, .inl (fun _ => nI 0)))]) rfl ?_
            refine z_dup C dX3_alone_183 rfl ?_
            refine z_iconst C (nI 0) dX3_alone_184 (by decide) ?_
            refine z_iload_n C dX3_alone_185 2 rfl ?_
            refine z_iastN C ((wS g q a sm).length) zapp_e (by omega) (by decide) dX3_alone_186 zapp_set ?_
            refine z_dup C dX3_alone_187 rfl ?_
            refine z_iconst C (nI 1) dX3_alone_188 (by decide) ?_
            refine z_aload_n C dX3_alone_189 0 rfl ?_
            refine z_get C inX3_alone_X3 0 (zapp_l wS_o) rfl 2 (by decide) (C.w 1 rfl) rfl dX3_alone_190 ?_
            refine z_iload_n C dX3_alone_193 2 rfl ?_
            refine z_aald C 3 (zapp_l wS_bi) (by omega) (by omega) dX3_alone_194 (zPt_at (by omega)) ?_
            refine z_iconst C (nI 0) dX3_alone_195 (by decide) ?_
            refine z_ialdN C (4 + c) (zapp_l (wS_row (b := c) (by omega))) (by omega) (by decide) dX3_alone_196 (v := nI (zOw a c)) rfl ?_
            have f_196b := ha.ow (b := c) (by omega)
            refine z_iastN C ((wS g q a sm).length) zapp_e (by omega) (by decide) dX3_alone_197 zapp_set ?_
            refine z_dup C dX3_alone_198 rfl ?_
            refine z_iconst C (nI 2) dX3_alone_199 (by decide) ?_
            refine z_iload_n C dX3_alone_200 3 rfl ?_
            refine z_iastN C ((wS g q a sm).length) zapp_e (by omega) (by decide) dX3_alone_201 zapp_set ?_
            refine z_aret (Or.inr ⟨_, rfl⟩) C dX3_alone_202 ⟨x181, rfl, ?_⟩
            rw [(zAl_of (by unfold aAlone; rw [hwn, if_neg (by omega)]; rfl) (by unfold aAlone; rw [hwn, if_neg (by omega)]; rfl) (by unfold aAlone; rw [hwn, if_neg (by omega), show i = zNb a by omega]; exact congrArg iZ (mMx_eq (fun b hb => zCo_ge hf hb) (zNb a))))]
          | succ k ih97 =>
            intro i hik
            have hmb : mMx a f (zCo a f ((zOw a c : Nat) : Int)) i ≤ 999 := mMx_le ha hf (by omega)
            refine z_iload C dX3_alone_97 4 rfl ?_
            refine z_aload_n C dX3_alone_99 0 rfl ?_
            refine z_get C inX3_alone_X3 0 wS_o rfl 2 (by decide) (C.w 1 rfl) rfl dX3_alone_100 ?_
            refine z_alenR C 3 wS_bi dX3_alone_103 ?_
            refine z_icmp_ge C 180 dX3_alone_104 (by decide) (zle_NN (by omega) (by omega)) (fun h9 => absurd h9 (by omega)) (fun c_104 => ?_)
            refine z_aload_n C dX3_alone_107 0 rfl ?_
            refine z_iload C dX3_alone_108 4 rfl ?_
            refine z_callV C (c_X3_counts l g q a sm ha i (by omega)) (cwV 1 C.ts gX3_alone_X3_counts rfl rfl rfl (by decide +kernel) ⟨Nat.le_of_ble_eq_true rfl, Nat.le_of_ble_eq_true rfl⟩) wS_o rfl rfl rfl (Nat.le_of_ble_eq_true rfl) dX3_alone_110 ⟨by dsimp only; omega, by dsimp only; omega⟩ ?_
            rintro _ _ ⟨rfl, rfl⟩
            refine zW.eqst (st2 := [.int (bI (zCn a (zOu a) i))]) rfl ?_
            refine z_if_eq C 174 dX3_alone_113 (by decide) (zeq_B0 _) (fun c_113 => ?_) (fun c_113 => ?_)
            · skip
              refine z_iinc C dX3_alone_174 4 (nI (i + 1)) rfl (nI_add i 1) (by decide) [(4, .int (nI (i + 1))), (0, .ref (q 0)), (1, .int (nI f)), (2, .int (nI c)), (3, .int (nI (mMx a f (zCo a f ((zOw a c : Nat) : Int)) i)))] rfl ?_
              refine z_goto C 97 dX3_alone_177 (by decide) ?_
              refine zW.pick (lv' := [(0, .ref (q 0)), (1, .int (nI f)), (2, .int (nI c)), (3, .int (nI (mMx a f (zCo a f ((zOw a c : Nat) : Int)) i))), (4, .int (nI (i + 1)))]) [1, 2, 3, 4, 0] rfl ?_
              refine zW.lve (lv' := [(0, .ref (q 0)), (1, .int (nI f)), (2, .int (nI c)), (3, .int (nI (mMx a f (zCo a f ((zOw a c : Nat) : Int)) (i + 1)))), (4, .int (nI (i + 1)))]) (by rw [mMx_n (zCo_f1 c_113)]) ?_
              exact ih97 (i + 1) (by omega)
            · skip
              refine z_aload_n C dX3_alone_116 0 rfl ?_
              refine z_get C inX3_alone_X3 0 wS_o rfl 2 (by decide) (C.w 1 rfl) rfl dX3_alone_117 ?_
              refine z_iload C dX3_alone_120 4 rfl ?_
              refine z_aald C 3 wS_bi (by omega) (by omega) dX3_alone_122 (zPt_at (by omega)) ?_
              refine z_iconst C (nI 1) dX3_alone_123 (by decide) ?_
              refine z_ialdN C (4 + i) (wS_row (b := i) (by omega)) (by omega) (by decide) dX3_alone_124 (v := nI (zBu a i)) rfl ?_
              have f_124b := ha.bu8 (b := i) (by omega)
              refine z_iconst C (nI 1) dX3_alone_125 (by decide) ?_
              refine z_iload_n C dX3_alone_126 1 rfl ?_
              refine z_ishl C dX3_alone_127 (v := nI (2 ^ f)) (zshl_1N (by omega)) ?_
              refine z_icmp_ne C 174 dX3_alone_128 (by decide) (zeq_NN (by omega) (by omega)) (fun c_128 => ?_) (fun c_128 => ?_)
              · skip
                refine z_iinc C dX3_alone_174 4 (nI (i + 1)) rfl (nI_add i 1) (by decide) [(4, .int (nI (i + 1))), (0, .ref (q 0)), (1, .int (nI f)), (2, .int (nI c)), (3, .int (nI (mMx a f (zCo a f ((zOw a c : Nat) : Int)) i)))] rfl ?_
                refine z_goto C 97 dX3_alone_177 (by decide) ?_
                refine zW.pick (lv' := [(0, .ref (q 0)), (1, .int (nI f)), (2, .int (nI c)), (3, .int (nI (mMx a f (zCo a f ((zOw a c : Nat) : Int)) i))), (4, .int (nI (i + 1)))]) [1, 2, 3, 4, 0] rfl ?_
                refine zW.lve (lv' := [(0, .ref (q 0)), (1, .int (nI f)), (2, .int (nI c)), (3, .int (nI (mMx a f (zCo a f ((zOw a c : Nat) : Int)) (i + 1)))), (4, .int (nI (i + 1)))]) (by rw [mMx_n (zCo_f2 c_128)]) ?_
                exact ih97 (i + 1) (by omega)
              · skip
                refine z_aload_n C dX3_alone_131 0 rfl ?_
                refine z_get C inX3_alone_X3 0 wS_o rfl 2 (by decide) (C.w 1 rfl) rfl dX3_alone_132 ?_
                refine z_iload C dX3_alone_135 4 rfl ?_
                refine z_aald C 3 wS_bi (by omega) (by omega) dX3_alone_137 (zPt_at (by omega)) ?_
                refine z_iconst C (nI 0) dX3_alone_138 (by decide) ?_
                refine z_ialdN C (4 + i) (wS_row (b := i) (by omega)) (by omega) (by decide) dX3_alone_139 (v := nI (zOw a i)) rfl ?_
                have f_139b := ha.ow (b := i) (by omega)
                refine z_aload_n C dX3_alone_140 0 rfl ?_
                refine z_get C inX3_alone_X3 0 wS_o rfl 2 (by decide) (C.w 1 rfl) rfl dX3_alone_141 ?_
                refine z_iload_n C dX3_alone_144 2 rfl ?_
                refine z_aald C 3 wS_bi (by omega) (by omega) dX3_alone_145 (zPt_at (by omega)) ?_
                refine z_iconst C (nI 0) dX3_alone_146 (by decide) ?_
                refine z_ialdN C (4 + c) (wS_row (b := c) (by omega)) (by omega) (by decide) dX3_alone_147 (v := nI (zOw a c)) rfl ?_
                have f_147b := ha.ow (b := c) (by omega)
                refine z_icmp_eq C 174 dX3_alone_148 (by decide) (zeq_NN (by omega) (by omega)) (fun c_148 => ?_) (fun c_148 => ?_)
                · skip
                  refine z_iinc C dX3_alone_174 4 (nI (i + 1)) rfl (nI_add i 1) (by decide) [(4, .int (nI (i + 1))), (0, .ref (q 0)), (1, .int (nI f)), (2, .int (nI c)), (3, .int (nI (mMx a f (zCo a f ((zOw a c : Nat) : Int)) i)))] rfl ?_
                  refine z_goto C 97 dX3_alone_177 (by decide) ?_
                  refine zW.pick (lv' := [(0, .ref (q 0)), (1, .int (nI f)), (2, .int (nI c)), (3, .int (nI (mMx a f (zCo a f ((zOw a c : Nat) : Int)) i))), (4, .int (nI (i + 1)))]) [1, 2, 3, 4, 0] rfl ?_
                  refine zW.lve (lv' := [(0, .ref (q 0)), (1, .int (nI f)), (2, .int (nI c)), (3, .int (nI (mMx a f (zCo a f ((zOw a c : Nat) : Int)) (i + 1)))), (4, .int (nI (i + 1)))]) (by rw [mMx_n (zCo_f3 (by omega))]) ?_
                  exact ih97 (i + 1) (by omega)
                · skip
                  refine z_aload_n C dX3_alone_151 0 rfl ?_
                  refine z_get C inX3_alone_X3 0 wS_o rfl 2 (by decide) (C.w 1 rfl) rfl dX3_alone_152 ?_
                  refine z_iload C dX3_alone_155 4 rfl ?_
                  refine z_aald C 3 wS_bi (by omega) (by omega) dX3_alone_157 (zPt_at (by omega)) ?_
                  refine z_iconst C (nI 2) dX3_alone_158 (by decide) ?_
                  refine z_ialdN C (4 + i) (wS_row (b := i) (by omega)) (by omega) (by decide) dX3_alone_159 (v := nI (zPr a i)) rfl ?_
                  have f_159b := ha.pr (b := i) (by omega)
                  refine z_iload_n C dX3_alone_160 3 rfl ?_
                  refine z_icmp_le C 174 dX3_alone_161 (by decide) (zle_NN (by omega) (by omega)) (fun c_161 => ?_) (fun c_161 => ?_)
                  · skip
                    refine z_iinc C dX3_alone_174 4 (nI (i + 1)) rfl (nI_add i 1) (by decide) [(4, .int (nI (i + 1))), (0, .ref (q 0)), (1, .int (nI f)), (2, .int (nI c)), (3, .int (nI (mMx a f (zCo a f ((zOw a c : Nat) : Int)) i)))] rfl ?_
                    refine z_goto C 97 dX3_alone_177 (by decide) ?_
                    refine zW.pick (lv' := [(0, .ref (q 0)), (1, .int (nI f)), (2, .int (nI c)), (3, .int (nI (mMx a f (zCo a f ((zOw a c : Nat) : Int)) i))), (4, .int (nI (i + 1)))]) [1, 2, 3, 4, 0] rfl ?_
                    refine zW.lve (lv' := [(0, .ref (q 0)), (1, .int (nI f)), (2, .int (nI c)), (3, .int (nI (mMx a f (zCo a f ((zOw a c : Nat) : Int)) (i + 1)))), (4, .int (nI (i + 1)))]) (by rw [mMx_k (by omega)]) ?_
                    exact ih97 (i + 1) (by omega)
                  · skip
                    refine z_aload_n C dX3_alone_164 0 rfl ?_
                    refine z_get C inX3_alone_X3 0 wS_o rfl 2 (by decide) (C.w 1 rfl) rfl dX3_alone_165 ?_
                    refine z_iload C dX3_alone_168 4 rfl ?_
                    refine z_aald C 3 wS_bi (by omega) (by omega) dX3_alone_170 (zPt_at (by omega)) ?_
                    refine z_iconst C (nI 2) dX3_alone_171 (by decide) ?_
                    refine z_ialdN C (4 + i) (wS_row (b := i) (by omega)) (by omega) (by decide) dX3_alone_172 (v := nI (zPr a i)) rfl ?_
                    have f_172b := ha.pr (b := i) (by omega)
                    refine z_istore_n C dX3_alone_173 (by decide) [(3, .int (nI (zPr a i))), (0, .ref (q 0)), (1, .int (nI f)), (2, .int (nI c)), (4, .int (nI i))] rfl ?_
                    refine z_iinc C dX3_alone_174 4 (nI (i + 1)) rfl (nI_add i 1) (by decide) [(4, .int (nI (i + 1))), (3, .int (nI (zPr a i))), (0, .ref (q 0)), (1, .int (nI f)), (2, .int (nI c))] rfl ?_
                    refine z_goto C 97 dX3_alone_177 (by decide) ?_
                    refine zW.pick (lv' := [(0, .ref (q 0)), (1, .int (nI f)), (2, .int (nI c)), (3, .int (nI (zPr a i))), (4, .int (nI (i + 1)))]) [2, 3, 4, 1, 0] rfl ?_
                    refine zW.lve (lv' := [(0, .ref (q 0)), (1, .int (nI f)), (2, .int (nI c)), (3, .int (nI (mMx a f (zCo a f ((zOw a c : Nat) : Int)) (i + 1)))), (4, .int (nI (i + 1)))]) (by rw [mMx_t (zCo_t (by simpa using c_113) c_128 (by omega)) (by omega)]) ?_
                    exact ih97 (i + 1) (by omega)
        exact hlp97 (zNb a) 0 (by omega)
    | succ j ih10 =>
      intro best hj hB
      have hbb : -1 ≤ best ∧ best < 12 := by rcases hB with ⟨e, -⟩ | ⟨c, -, e1, e2, -⟩ <;> omega
      refine zW.lve (lv' := [(0, .ref (q 0)), (1, .int (nI f)), (2, .int (iZ best)), (3, .int (nI j))]) (by rw [show (((j + 1 : Nat) : Int) - 1) = (j : Int) by omega]; rfl) ?_
      refine z_iload_n C dX3_alone_10 3 rfl ?_
      refine z_if_lt C 67 dX3_alone_11 (by decide) (zlt_N0 (by omega)) (fun h9 => absurd h9 (fun h => h)) (fun c_11 => ?_)
      refine z_aload_n C dX3_alone_14 0 rfl ?_
      refine z_iload_n C dX3_alone_15 3 rfl ?_
      refine z_callV C (c_X3_counts l g q a sm ha j (by omega)) (cwV 1 C.ts gX3_alone_X3_counts rfl rfl rfl (by decide +kernel) ⟨Nat.le_of_ble_eq_true rfl, Nat.le_of_ble_eq_true rfl⟩) wS_o rfl rfl rfl (Nat.le_of_ble_eq_true rfl) dX3_alone_16 ⟨by dsimp only; omega, by dsimp only; omega⟩ ?_
      rintro _ _ ⟨rfl, rfl⟩
      refine zW.eqst (st2 := [.int (bI (zCn a (zOu a) j))]) rfl ?_
      refine z_if_eq C 61 dX3_alone_19 (by decide) (zeq_B0 _) (fun c_19 => ?_) (fun c_19 => ?_)
      · skip
        refine z_iinc C dX3_alone_61 3 (iZ (((j : Nat) : Int) + -1)) rfl (iZ_add ((j : Nat) : Int) (-1)) (by decide) [(3, .int (iZ (((j : Nat) : Int) + -1))), (0, .ref (q 0)), (1, .int (nI f)), (2, .int (iZ best))] rfl ?_
        refine z_goto C 10 dX3_alone_64 (by decide) ?_
        refine zW.pick (lv' := [(0, .ref (q 0)), (1, .int (nI f)), (2, .int (iZ best)), (3, .int (iZ (((j : Nat) : Int) + -1)))]) [1, 2, 3, 0] rfl ?_
        exact ih10 best (by omega) (zHB_keep hB (Or.inl (zCo_f1 c_19)))
      · skip
        refine z_aload_n C dX3_alone_22 0 rfl ?_
        refine z_get C inX3_alone_X3 0 wS_o rfl 2 (by decide) (C.w 1 rfl) rfl dX3_alone_23 ?_
        refine z_iload_n C dX3_alone_26 3 rfl ?_
        refine z_aald C 3 wS_bi (by omega) (by omega) dX3_alone_27 (zPt_at (by omega)) ?_
        refine z_iconst C (nI 1) dX3_alone_28 (by decide) ?_
        refine z_ialdN C (4 + j) (wS_row (b := j) (by omega)) (by omega) (by decide) dX3_alone_29 (v := nI (zBu a j)) rfl ?_
        have f_29b := ha.bu8 (b := j) (by omega)
        refine z_iconst C (nI 1) dX3_alone_30 (by decide) ?_
        refine z_iload_n C dX3_alone_31 1 rfl ?_
        refine z_ishl C dX3_alone_32 (v := nI (2 ^ f)) (zshl_1N (by omega)) ?_
        refine z_icmp_ne C 61 dX3_alone_33 (by decide) (zeq_NN (by omega) (by omega)) (fun c_33 => ?_) (fun c_33 => ?_)
        · skip
          refine z_iinc C dX3_alone_61 3 (iZ (((j : Nat) : Int) + -1)) rfl (iZ_add ((j : Nat) : Int) (-1)) (by decide) [(3, .int (iZ (((j : Nat) : Int) + -1))), (0, .ref (q 0)), (1, .int (nI f)), (2, .int (iZ best))] rfl ?_
          refine z_goto C 10 dX3_alone_64 (by decide) ?_
          refine zW.pick (lv' := [(0, .ref (q 0)), (1, .int (nI f)), (2, .int (iZ best)), (3, .int (iZ (((j : Nat) : Int) + -1)))]) [1, 2, 3, 0] rfl ?_
          exact ih10 best (by omega) (zHB_keep hB (Or.inl (zCo_f2 c_33)))
        · skip
          refine z_iload_n C dX3_alone_36 2 rfl ?_
          refine z_if_lt C 59 dX3_alone_37 (by decide) (zlt_Z0 (by unfold zB31; omega)) (fun c_37 => ?_) (fun c_37 => ?_)
          · skip
            refine z_iload_n C dX3_alone_59 3 rfl ?_
            refine z_istore_n C dX3_alone_60 (by decide) [(2, .int (nI j)), (0, .ref (q 0)), (1, .int (nI f)), (3, .int (nI j))] rfl ?_
            refine z_iinc C dX3_alone_61 3 (iZ (((j : Nat) : Int) + -1)) rfl (iZ_add ((j : Nat) : Int) (-1)) (by decide) [(3, .int (iZ (((j : Nat) : Int) + -1))), (2, .int (nI j)), (0, .ref (q 0)), (1, .int (nI f))] rfl ?_
            refine z_goto C 10 dX3_alone_64 (by decide) ?_
            refine zW.pick (lv' := [(0, .ref (q 0)), (1, .int (nI f)), (2, .int (nI j)), (3, .int (iZ (((j : Nat) : Int) + -1)))]) [2, 3, 1, 0] rfl ?_
            exact ih10 ((j : Nat) : Int) (by omega) (zHB_new hB (by omega) (zCo_t (by simpa using c_19) c_33 (by omega)) (Or.inl (by omega)))
          · skip
            obtain ⟨c, hc, hbc⟩ : ∃ c : Nat, c < zNb a ∧ best = (c : Int) := by rcases hB with ⟨e, -⟩ | ⟨c, -, e1, e2, -⟩ <;> first | (exfalso; omega) | exact ⟨c, e1, e2⟩
            refine z_aload_n C dX3_alone_40 0 rfl ?_
            refine z_get C inX3_alone_X3 0 wS_o rfl 2 (by decide) (C.w 1 rfl) rfl dX3_alone_41 ?_
            refine z_iload_n C dX3_alone_44 3 rfl ?_
            refine z_aald C 3 wS_bi (by omega) (by omega) dX3_alone_45 (zPt_at (by omega)) ?_
            refine z_iconst C (nI 2) dX3_alone_46 (by decide) ?_
            refine z_ialdN C (4 + j) (wS_row (b := j) (by omega)) (by omega) (by decide) dX3_alone_47 (v := nI (zPr a j)) rfl ?_
            have f_47b := ha.pr (b := j) (by omega)
            refine z_aload_n C dX3_alone_48 0 rfl ?_
            refine z_get C inX3_alone_X3 0 wS_o rfl 2 (by decide) (C.w 1 rfl) rfl dX3_alone_49 ?_
            refine z_iload_n C dX3_alone_52 2 rfl ?_
            refine zW.top (y := nI c) (congrArg iZ hbc) ?_
            refine z_aald C 3 wS_bi (by omega) (by omega) dX3_alone_53 (zPt_at (by omega)) ?_
            refine z_iconst C (nI 2) dX3_alone_54 (by decide) ?_
            refine z_ialdN C (4 + c) (wS_row (b := c) (by omega)) (by omega) (by decide) dX3_alone_55 (v := nI (zPr a c)) rfl ?_
            have f_55b := ha.pr (b := c) (by omega)
            refine z_icmp_lt C 61 dX3_alone_56 (by decide) (zlt_NN (by omega) (by omega)) (fun c_56 => ?_) (fun c_56 => ?_)
            · skip
              refine z_iinc C dX3_alone_61 3 (iZ (((j : Nat) : Int) + -1)) rfl (iZ_add ((j : Nat) : Int) (-1)) (by decide) [(3, .int (iZ (((j : Nat) : Int) + -1))), (0, .ref (q 0)), (1, .int (nI f)), (2, .int (iZ best))] rfl ?_
              refine z_goto C 10 dX3_alone_64 (by decide) ?_
              refine zW.pick (lv' := [(0, .ref (q 0)), (1, .int (nI f)), (2, .int (iZ best)), (3, .int (iZ (((j : Nat) : Int) + -1)))]) [1, 2, 3, 0] rfl ?_
              exact ih10 best (by omega) (zHB_keep hB (Or.inr ⟨c, hbc, by omega⟩))
            · skip
              refine z_iload_n C dX3_alone_59 3 rfl ?_
              refine z_istore_n C dX3_alone_60 (by decide) [(2, .int (nI j)), (0, .ref (q 0)), (1, .int (nI f)), (3, .int (nI j))] rfl ?_
              refine z_iinc C dX3_alone_61 3 (iZ (((j : Nat) : Int) + -1)) rfl (iZ_add ((j : Nat) : Int) (-1)) (by decide) [(3, .int (iZ (((j : Nat) : Int) + -1))), (2, .int (nI j)), (0, .ref (q 0)), (1, .int (nI f))] rfl ?_
              refine z_goto C 10 dX3_alone_64 (by decide) ?_
              refine zW.pick (lv' := [(0, .ref (q 0)), (1, .int (nI f)), (2, .int (nI j)), (3, .int (iZ (((j : Nat) : Int) + -1)))]) [2, 3, 1, 0] rfl ?_
              exact ih10 ((j : Nat) : Int) (by omega) (zHB_new hB (by omega) (zCo_t (by simpa using c_19) c_33 (by omega)) (Or.inr ⟨c, hbc, by omega⟩))
  exact hlp10 (zNb a) (-1) (Nat.le_refl _) (zHB_0 a f)
