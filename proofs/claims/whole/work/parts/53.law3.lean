/-! the law: what it stands on -/
theorem lg_self (x : Int64) : lg_cmp x x = 0 := by
  unfold lg_cmp
  simp
theorem zand31 (x : Int32) : ∃ c, c < 32 ∧ x &&& 31 = nI c := by
  refine ⟨x.toBitVec.toNat &&& 31, Nat.lt_of_le_of_lt Nat.and_le_right (by decide), ?_⟩
  have h : x = nI x.toBitVec.toNat := by
    apply Int32.toBitVec_inj.mp
    show x.toBitVec = (Int32.ofNat x.toBitVec.toNat).toBitVec
    simp
  have h2 := zand_NN x.toBitVec.toNat 31
  rw [← h] at h2
  exact h2
/-- the law's world: the class's, the row for answers, the reference's -/
def wL (g : zG) (q p : Nat → Nat) (qo : Nat) (a : zS) (bs : Nat → Int × Nat) (wb pd gw : Nat → Nat → Int) (fo : Nat → Int64) (th : Int) (la : Nat → Int) (pe : Nat → Nat) (ga : Nat → Int) (sz : Nat → Nat) : va_W := (wB g q a (zG0 a) bs wb pd gw ++ [(qo, .inl (zJ g, 1, .inr (.inl fo)))]) ++ wM g p th a la pe ga sz
def zLd (g : zG) (q p : Nat → Nat) (qo : Nat) (a : zS) : va_W → Prop := fun W => ∃ (bs : Nat → Int × Nat) (wb pd gw : Nat → Nat → Int) (fo : Nat → Int64) (th : Int) (la : Nat → Int) (pe : Nat → Nat) (ga : Nat → Int) (sz : Nat → Nat), W = wL g q p qo a bs wb pd gw fo th la pe ga sz ∧ zSet a bs wb pd gw 0 0 ∧ zM0 la pe
section ZRL
variable {g : zG} {l : Launch} {R : Room} {E : zEnv} {Q : State → Prop} {nL cells slots : Nat} {ws ws' : va_W} {lv lv' : List (Nat × Value)} {st rest : List Value} {pc : Nat} {cc : ByteArray} {own : String} {Ts : List Cond} {ret : Option FieldType}
variable {post : Option Value → va_W → Prop} {mc ms : Nat}
/-- the script -/
def zSc (E : zEnv) (b L : Nat) (xs : Nat → Int32) : Prop := va_X b L xs (zs E) (zs E).heap ∧ b < (zs E).heap.size ∧ ¬ zA E b ∧ L ≤ 2048
theorem z_sld (C : zC g E cc own Ts nL ret) {b L : Nat} {xs : Nat → Int32} (S : zSc E b L xs) {j : Nat} (hj : j < L) (d : decode cc pc = .ok (.iaload, 1)) (kk : zW g l R E Q nL cells slots ws lv (.int (xs j) :: st) (pc + 1)) : zW g l R E Q nL cells slots ws lv (.int (nI j) :: .ref b :: st) pc := by
  have hL := S.2.2.2
  have e : (nI j).toNatClampNeg = j := nI_clamp (by omega)
  intro H locs ls hP hD hS hl
  refine va_sld C.x C.b S.1 S.2.1 S.2.2.1 hS (fun h => ?_) d ?_
  · rcases h with h | h
    · rw [Int32.lt_iff_toInt_lt, nI_toInt (by omega)] at h
      have h0 : (0 : Int32).toInt = 0 := rfl
      omega
    · rw [e] at h; omega
  · rw [e]; exact kk H locs ls hP hD hS hl
theorem z_slen (C : zC g E cc own Ts nL ret) {b L : Nat} {xs : Nat → Int32} (S : zSc E b L xs) (d : decode cc pc = .ok (.arraylength, 1)) (kk : zW g l R E Q nL cells slots ws lv (.int (nI L) :: st) (pc + 1)) : zW g l R E Q nL cells slots ws lv (.ref b :: st) pc :=
  fun H locs ls hP hD hS hl => va_slen C.x C.b S.1 S.2.1 S.2.2.1 hS d (kk H locs ls hP hD hS hl)
theorem z_newaJ (C : zC g E cc own Ts nL ret) (harr : (Cond.arrayClass .long).before (za E) (zs E) = true) {n : Nat} (hn : n < 100000) (hc : cells + 1 ≤ R.cells) (hs : slots + n ≤ R.slots) (d : decode cc pc = .ok (.newarray .long, 2))
    (kk : ∀ q9 : Nat, zW g l R E Q nL (cells + 1) (slots + n) (ws ++ [(q9, .inl (zJ g, n, .inr (.inl (fun _ => 0))))]) lv (.ref q9 :: st) (pc + 2)) : zW g l R E Q nL cells slots ws lv (.int (nI n) :: st) pc := by
  intro H locs ls hP hD hS hl
  refine va_newa (atype := .long) (ty := .long) (n := nI n) (N' := n) (a0 := (n, .inr (.inl (fun _ => 0)))) C.x C.b harr rfl C.K.1 hP hD hS C.A (fun cA => rfl) (fun h => ?_) ?_ (by show n * 8 ≤ _; omega) hc hs d ?_
  · rw [Int32.lt_iff_toInt_lt, nI_toInt (by omega)] at h
    have h0 : (0 : Int32).toInt = 0 := rfl
    omega
  · show (nI n).toInt.toNat = n
    rw [nI_toInt (by omega)]; rfl
  · intro q9 cA H1 hK1 hP1 hD1 hS1
    have e1 := (hK1.2 3 (cA, .long) rfl).2
    have e2 := (hK1.2 2 (zJ g, .long) rfl).2
    have e3 : cA = zJ g := Option.some.inj (e1.symm.trans e2)
    subst e3
    exact kk q9 H1 locs ls hP1 hD1 hS1 hl
theorem z_callSW (C : zC g E cc own Ts nL ret) (F : zFx (zA E) (zs E) (zs E).heap) {y : MethodName} {bytes : ByteArray} {maxL n index : Nat} {rt : Option FieldType} {hh : List (Nat × Nat × Nat × Nat)} {wy : List Cond} {rm : Room} {As : List Value}
    (hM : zMH g l y wy rm As ws post mc ms) (cw : vx_CSW R (zs E) (za E) own index y bytes maxL rt hh wy rm mc ms n) (hn : As.length = n) (hst : st = As.reverse ++ rest) (hr : (rest.map fun v => v.category).sum ≤ 8) (d : decode cc pc = .ok (.invokestatic index, 3)) (hf : cells + mc ≤ R.cells ∧ slots + ms ≤ R.slots)
    (kk : ∀ v w', post v w' → zW g l R E Q nL (cells + mc) (slots + ms) w' lv (v.toList ++ rest) (pc + 3)) : zW g l R E Q nL cells slots ws lv st pc :=
  z_go (fun H locs ls hP hD hS hl => vx_runSW C.fx (hM H.size) cw (z_pxS C.K F hP hD hS C.A) rfl hn hl.1 hst (lv_room hr) d hf) C.A kk
end ZRL
