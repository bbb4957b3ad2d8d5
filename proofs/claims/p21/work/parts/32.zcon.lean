/-! worlds that grow: frames, new arrays, new objects, copies -/
theorem zf_l {α : Type} {a b c : List α} {k : Nat} {q : α} (h : a[k]? = some q) : ((a ++ b) ++ c)[k]? = some q := by
  have h1 := (List.getElem?_eq_some_iff.mp h).1
  rw [List.getElem?_append_left (by rw [List.length_append]; omega), List.getElem?_append_left h1]
  exact h
theorem zf_m {α : Type} {a b c : List α} {k : Nat} {q : α} (h : b[k]? = some q) : ((a ++ b) ++ c)[a.length + k]? = some q := by
  have h1 := (List.getElem?_eq_some_iff.mp h).1
  rw [List.getElem?_append_left (by rw [List.length_append]; omega), List.getElem?_append_right (by omega), show a.length + k - a.length = k by omega]
  exact h
theorem zf_r {α : Type} {a b c : List α} {k : Nat} {q : α} (h : c[k]? = some q) : ((a ++ b) ++ c)[a.length + b.length + k]? = some q := by
  rw [List.getElem?_append_right (by rw [List.length_append]; omega), List.length_append, show a.length + b.length + k - (a.length + b.length) = k by omega]
  exact h
theorem zfP {D : va_G} {cl : List vw_C} {a b c : va_W} {H : Heap} (h : va_P D cl ((a ++ b) ++ c) H) : va_P D cl a H ∧ va_P D cl b H ∧ va_P D cl c H :=
  ⟨fun k q hk => h k q (zf_l hk), fun k q hk => h _ q (zf_m hk), fun k q hk => h _ q (zf_r hk)⟩
theorem zfD {A : Nat → Prop} {a b c : va_W} (h : va_D A ((a ++ b) ++ c)) : va_D A b := by
  refine ⟨fun i j p q hi hj e => ?_, fun k q hk => h.2 _ q (zf_m hk)⟩
  have := h.1 _ _ p q (zf_m hi) (zf_m hj) e
  omega
theorem zf_in {b : va_W} {sz x : Nat} {a c : va_W} (h : va_A b sz x) : va_A ((a ++ b) ++ c) sz x := by
  rcases h with ⟨k, e, h⟩ | h
  · exact Or.inl ⟨_, e, zf_m h⟩
  · exact Or.inr h
theorem zf_go {D : va_G} {cl : List vw_C} {a b c b' : va_W} {st t : State} (hP : va_P D cl ((a ++ b) ++ c) st.heap) {A : Nat → Prop} (hD : va_D A ((a ++ b) ++ c)) (hP' : va_P D cl b' t.heap) (hD' : va_D (va_A b st.heap.size) b') (hF : va_F (va_A b st.heap.size) st t) :
    va_P D cl ((a ++ b') ++ c) t.heap ∧ va_D (va_A ((a ++ b) ++ c) st.heap.size) ((a ++ b') ++ c) ∧ va_F (va_A ((a ++ b) ++ c) st.heap.size) st t := by
  obtain ⟨hPa, hPb, hPc⟩ := zfP hP
  have na : ∀ (k : Nat) (q : Nat × va_E), a[k]? = some q → ¬ va_A b st.heap.size q.1 := by
    intro k q hk h
    rcases h with ⟨j, e, h⟩ | h
    · have h1 := hD.1 _ _ q (q.1, e) (zf_l hk) (zf_m h) rfl
      have h2 := (List.getElem?_eq_some_iff.mp hk).1
      omega
    · have := (hPa k q hk).lt
      omega
  have nc : ∀ (k : Nat) (q : Nat × va_E), c[k]? = some q → ¬ va_A b st.heap.size q.1 := by
    intro k q hk h
    rcases h with ⟨j, e, h⟩ | h
    · have h1 := hD.1 _ _ q (q.1, e) (zf_r hk) (zf_m h) rfl
      have h2 := (List.getElem?_eq_some_iff.mp h).1
      omega
    · have := (hPc k q hk).lt
      omega
  have nac : ∀ (i j : Nat) (p q : Nat × va_E), a[i]? = some p → c[j]? = some q → p.1 ≠ q.1 := by
    intro i j p q hi hj e
    have h1 := hD.1 _ _ p q (zf_l hi) (zf_r hj) e
    have h2 := (List.getElem?_eq_some_iff.mp hi).1
    omega
  have Pa : va_P D cl a t.heap := hPa.kept (fun k q hk => hF.2 q.1 (hPa k q hk).lt (na k q hk))
  have Pc : va_P D cl c t.heap := hPc.kept (fun k q hk => hF.2 q.1 (hPc k q hk).lt (nc k q hk))
  refine ⟨(Pa.app hP').app Pc, ?_, hF.1, fun q h1 h2 => hF.2 q h1 (fun h => h2 (zf_in h))⟩
  have Da : va_D (va_A ((a ++ b) ++ c) st.heap.size) a := ⟨fun i j p q hi hj e => hD.1 _ _ p q (zf_l hi) (zf_l hj) e, fun k q hk => va_A.in (zf_l hk)⟩
  have Dc : va_D (va_A ((a ++ b) ++ c) st.heap.size) c := by
    refine ⟨fun i j p q hi hj e => ?_, fun k q hk => va_A.in (zf_r hk)⟩
    have := hD.1 _ _ p q (zf_r hi) (zf_r hj) e
    omega
  have Db : va_D (va_A ((a ++ b) ++ c) st.heap.size) b' := hD'.weaken (fun k q _ h => zf_in h)
  refine (Da.app Db (fun i j p q hi hj e => na i p hi (by rw [e]; exact hD'.2 j q hj))).app Dc (fun i j p q hi hj e => ?_)
  by_cases h : i < a.length
  · rw [List.getElem?_append_left h] at hi
    exact nac _ _ _ _ hi hj e
  · rw [List.getElem?_append_right (by omega)] at hi
    exact nc j q hj (by rw [← e]; exact hD'.2 _ p hi)
/-- a method's contract in a wider world -/
theorem zM.fr {g : zG} {l : Launch} {y : MethodName} {ws : List Cond} {rm : Room} {As : List Value} {w : va_W} {post : Option Value → va_W → Prop} {mc ms : Nat} (h : zM g l y ws rm As w post mc ms) (a c : va_W) : zM g l y ws rm As ((a ++ w) ++ c) (fun v W => ∃ w', post v w' ∧ W = (a ++ w') ++ c) mc ms := by
  intro sz p e ha hc hk s m args below hf happ hP hT
  obtain ⟨e0, e1, qP, qK, qD⟩ := hP
  obtain ⟨t, o, h1, h2, h3, ⟨⟨⟨v, w', e1', e2, eP, eD⟩, hF⟩, L, hL1, hL2⟩⟩ := h sz p e ha hc hk s m args below hf happ ⟨e0, e1, (zfP qP).2.1, qK, zfD qD⟩ hT
  subst e1
  obtain ⟨g1, g2, g3⟩ := zf_go qP qD eP eD hF
  exact ⟨t, o, h1, h2, h3, ⟨⟨v, (a ++ w') ++ c, e1', ⟨w', e2, rfl⟩, g1, g2⟩, g3⟩, L, hL1, fun q hq => zf_in (hL2 q hq)⟩
section ZR9
variable {g : zG} {l : Launch} {R : Room} {E : zEnv} {Q : State → Prop} {nL cells slots : Nat} {ws ws' : va_W} {lv lv' : List (Nat × Value)} {st rest : List Value} {pc : Nat} {cc : ByteArray} {own : String} {Ts : List Cond} {ret : Option FieldType}
/-- some of the world is forgotten -/
theorem zW.fewer (a b c : va_W) (h : ws = (a ++ b) ++ c) (k : zW g l R E Q nL cells slots b lv st pc) : zW g l R E Q nL cells slots ws lv st pc := by
  subst h
  exact fun H locs ls hP hD hS hl => k H locs ls (zfP hP).2.1 (zfD hD) hS hl
theorem z_newaI (C : zC g E cc own Ts nL ret) (harr : (Cond.arrayClass .int).before (za E) (zs E) = true) {n : Nat} (hn : n < 100000) (hc : cells + 1 ≤ R.cells) (hs : slots + n ≤ R.slots) (d : decode cc pc = .ok (.newarray .int, 2))
    (kk : ∀ q9 : Nat, zW g l R E Q nL (cells + 1) (slots + n) (ws ++ [(q9, .inl (zI g, n, .inl (fun _ => nI 0)))]) lv (.ref q9 :: st) (pc + 2)) : zW g l R E Q nL cells slots ws lv (.int (nI n) :: st) pc := by
  intro H locs ls hP hD hS hl
  refine va_newa (atype := .int) (ty := .int) (n := nI n) (N' := n) (a0 := (n, .inl (fun _ => nI 0))) C.x C.b harr rfl C.K.1 hP hD hS C.A (fun cA => rfl) (fun h => ?_) ?_ (by show n * 4 ≤ _; omega) hc hs d ?_
  · rw [Int32.lt_iff_toInt_lt, nI_toInt (by omega)] at h
    have h0 : (0 : Int32).toInt = 0 := rfl
    omega
  · show (nI n).toInt.toNat = n
    rw [nI_toInt (by omega)]; rfl
  · intro q9 cA H1 hK1 hP1 hD1 hS1
    have e1 := (hK1.2 3 (cA, .int) rfl).2
    have e2 := (hK1.2 0 (zI g, .int) rfl).2
    have e3 : cA = zI g := Option.some.inj (e1.symm.trans e2)
    subst e3
    exact kk q9 H1 locs ls hP1 hD1 hS1 hl
theorem z_newaZ (C : zC g E cc own Ts nL ret) (harr : (Cond.arrayClass .boolean).before (za E) (zs E) = true) {n : Nat} (hn : n < 100000) (hc : cells + 1 ≤ R.cells) (hs : slots + n ≤ R.slots) (d : decode cc pc = .ok (.newarray .boolean, 2))
    (kk : ∀ q9 : Nat, zW g l R E Q nL (cells + 1) (slots + n) (ws ++ [(q9, .inl (zZ g, n, .inl (fun _ => nI 0)))]) lv (.ref q9 :: st) (pc + 2)) : zW g l R E Q nL cells slots ws lv (.int (nI n) :: st) pc := by
  intro H locs ls hP hD hS hl
  refine va_newa (atype := .boolean) (ty := .boolean) (n := nI n) (N' := n) (a0 := (n, .inl (fun _ => nI 0))) C.x C.b harr rfl C.K.1 hP hD hS C.A (fun cA => rfl) (fun h => ?_) ?_ (by show n * 1 ≤ _; omega) hc hs d ?_
  · rw [Int32.lt_iff_toInt_lt, nI_toInt (by omega)] at h
    have h0 : (0 : Int32).toInt = 0 := rfl
    omega
  · show (nI n).toInt.toNat = n
    rw [nI_toInt (by omega)]; rfl
  · intro q9 cA H1 hK1 hP1 hD1 hS1
    have e1 := (hK1.2 3 (cA, .boolean) rfl).2
    have e2 := (hK1.2 1 (zZ g, .boolean) rfl).2
    have e3 : cA = zZ g := Option.some.inj (e1.symm.trans e2)
    subst e3
    exact kk q9 H1 locs ls hP1 hD1 hS1 hl
theorem z_new (C : zC g E cc own Ts nL ret) {C2 : String} {T : u_T} {N ci index : Nat} (hin : ∀ w ∈ u_ws C2 T N, w ∈ Ts) (ty : Nat → FieldType) (hty : ∀ k, k < N → parseFieldDescriptor (T k).2.2.1 = some (ty k)) (hcl : (Cond.classLink own index C2).before (za E) (zs E) = true) (hinst : (Cond.instantiable C2 N).before (za E) (zs E) = true) (hini : (Cond.initialized C2).before (za E) (zs E) = true)
    (hc9 : vwCl[ci]? = some (C2, T, N)) (fs : List Value) (hfs : ∀ j, j < N → defaultValue (ty j) = vp_V fs j) (hc : cells + 1 ≤ R.cells) (hs : slots + N ≤ R.slots) (d : decode cc pc = .ok (.new index, 3))
    (kk : ∀ q9 : Nat, zW g l R E Q nL (cells + 1) (slots + N) (ws ++ [(q9, .inr (ci, fs))]) lv (.ref q9 :: st) (pc + 3)) : zW g l R E Q nL cells slots ws lv st pc := by
  intro H locs ls hP hD hS hl
  exact va_new C.x C.b C.ts hin ty hty C.ow hcl hinst hini C.K.1 hP hD hS C.A hc9 hfs hc hs d (fun q9 H1 hP1 hD1 hS1 => kk q9 H1 locs ls hP1 hD1 hS1 hl)
end ZR9
section ZR10
variable {g : zG} {l : Launch} {R : Room} {E : zEnv} {Q : State → Prop} {nL cells slots : Nat} {ws ws' : va_W} {lv lv' : List (Nat × Value)} {st rest : List Value} {pc : Nat} {cc : ByteArray} {own : String} {Ts : List Cond} {ret : Option FieldType}
variable {post : Option Value → va_W → Prop} {mc ms : Nat}
/-- the world, its things told in another order -/
theorem zW.perm (is : List Nat) (w2 : va_W) (hn : va_nd is = true) (h1 : is.filterMap (fun i => ws[i]?) = w2) (h2 : is.map (fun i => ws[i]?) = w2.map some) (k : zW g l R E Q nL cells slots w2 lv st pc) : zW g l R E Q nL cells slots ws lv st pc :=
  fun H locs ls hP hD hS hl => k H locs ls (hP.sub is h1) (hD.sub is hn h2) hS hl
/-- a constructor of another class of the nest -/
theorem z_callIN (C : zC g E cc own Ts nL ret) {y : MethodName} {host : String} {bytes : ByteArray} {maxL n index : Nat} {wy : List Cond} {rm : Room} {As : List Value} {b : Nat}
    (hM : zM g l y wy rm (.ref b :: As) ws post mc ms) (cw : va_CN R (zs E) (za E) own index y host bytes maxL none wy rm mc ms n ∧ y.name = "<init>" ∧ (Cond.instanceMethod y).before (za E) (zs E) = true) (hn : As.length = n) (hst : st = As.reverse ++ .ref b :: rest) (hr : (rest.map fun v => v.category).sum ≤ 8) (d : decode cc pc = .ok (.invokespecial index, 3)) (hf : cells + mc ≤ R.cells ∧ slots + ms ≤ R.slots)
    (kk : ∀ v w', post v w' → zW g l R E Q nL (cells + mc) (slots + ms) w' lv (v.toList ++ rest) (pc + 3)) : zW g l R E Q nL cells slots ws lv st pc :=
  z_go (fun H locs ls hP hD hS hl => va_runIN C.fx (hM H.size) cw (z_pcS C.K hP hD) rfl hn hl.1 hst (lv_room hr) d hf) C.A kk
end ZR10
theorem nwX0 : ∀ j, j < 2 → defaultValue (tyX0 j) = vp_V [.int (nI 0), .int (nI 0)] j := by
  intro j h
  rcases (show j = 0 ∨ j = 1 by omega) with rfl | rfl <;> rfl
theorem nwX1 : ∀ j, j < 4 → defaultValue (tyX1 j) = vp_V [.null, .null, .null, .null] j := by
  intro j h
  rcases (show j = 0 ∨ j = 1 ∨ j = 2 ∨ j = 3 by omega) with rfl | rfl | rfl | rfl <;> rfl
def zNX2 : List Value := [.null, .int (nI 0), .null, .int (nI 0), .null, .null, .null, .null, .null, .null, .int (nI 0), .null, .null, .null]
theorem nwX2 : ∀ j, j < 14 → defaultValue (tyX2 j) = vp_V zNX2 j := by
  intro j h
  rcases (show j = 0 ∨ j = 1 ∨ j = 2 ∨ j = 3 ∨ j = 4 ∨ j = 5 ∨ j = 6 ∨ j = 7 ∨ j = 8 ∨ j = 9 ∨ j = 10 ∨ j = 11 ∨ j = 12 ∨ j = 13 by omega) with rfl | rfl | rfl | rfl | rfl | rfl | rfl | rfl | rfl | rfl | rfl | rfl | rfl | rfl <;> rfl
def zNX3 : List Value := [.null, .null, .null, .int (nI 0), .int (nI 0), .int (nI 0)]
theorem nwX3 : ∀ j, j < 6 → defaultValue (tyX3 j) = vp_V zNX3 j := by
  intro j h
  rcases (show j = 0 ∨ j = 1 ∨ j = 2 ∨ j = 3 ∨ j = 4 ∨ j = 5 by omega) with rfl | rfl | rfl | rfl | rfl | rfl <;> rfl
/-- nothing yet -/
def zA0 : zS := zMk 0 0 0 0 (fun _ => 0) (fun _ => 0) (fun _ => 0) (fun _ => 0) (fun _ => 0) (fun _ => 0)
theorem zInv_A0 : zInv zA0 := ⟨⟨Nat.zero_le _, Nat.zero_le _, Nat.zero_le _, Nat.two_pow_pos _, fun f h => absurd h (Nat.not_lt_zero f), fun b h => absurd h (Nat.not_lt_zero b)⟩, fun _ _ => rfl⟩
theorem zIn_A0 : zIn zA0 = fun _ => false := by
  funext k
  show (decide (k < 0) && _) = false
  rw [decide_eq_false (Nat.not_lt_zero k)]; rfl
theorem zG0_A0 : zG0 zA0 = fun _ => 0 := by
  funext k
  show (if k < 0 then _ else 0) = (0 : Int)
  rw [if_neg (Nat.not_lt_zero k)]
theorem wB_new (g : zG) (b p1 p2 p3 p4 p5 p6 p7 p8 p9 p10 p11 p12 p13 p14 p15 p16 p17 p18 p19 : Nat) : ∃ q : Nat → Nat, q 0 = b ∧ q 12 = p12 ∧ ([(b, .inr (2, [.ref p1, .int (nI 0), .ref p2, .int (nI 0), .ref p3, .ref p4, .ref p5, .ref p6, .ref p7, .ref p8, .int (nI 0), .ref p12, .ref p13, .ref p11])),
   (p1, .inl (zI g, 8, .inl (fun _ => nI 0))), (p2, .inl (zZ g, 5, .inl (fun _ => nI 0))), (p3, .inl (zI g, 12, .inl (fun _ => nI 0))), (p4, .inl (zI g, 12, .inl (fun _ => nI 0))), (p5, .inl (zI g, 12, .inl (fun _ => nI 0))), (p6, .inl (zI g, 12, .inl (fun _ => nI 0))), (p7, .inl (zI g, 12, .inl (fun _ => nI 0))), (p8, .inl (zZ g, 12, .inl (fun _ => nI 0))),
   (p9, .inr (0, [.int (nI 0), .int (nI 0)])), (p10, .inr (0, [.int (nI 0), .int (nI 0)])), (p11, .inr (0, [.int (nI 0), .int (nI 0)])), (p12, .inr (1, [.ref p9, .ref p14, .ref p16, .ref p18])), (p13, .inr (1, [.ref p10, .ref p15, .ref p17, .ref p19])),
   (p14, .inl (zI g, 5, .inl (fun _ => nI 0))), (p15, .inl (zI g, 5, .inl (fun _ => nI 0))), (p16, .inl (zI g, 5, .inl (fun _ => nI 0))), (p17, .inl (zI g, 5, .inl (fun _ => nI 0))), (p18, .inl (zI g, 5, .inl (fun _ => nI 0))), (p19, .inl (zI g, 5, .inl (fun _ => nI 0)))] : va_W) = wB g q zA0 (zG0 zA0) (fun _ => (0, 0)) (fun _ _ => 0) (fun _ _ => 0) (fun _ _ => 0) := by
  refine ⟨fun k => [b, p1, p2, p3, p4, p5, p6, p7, p8, p9, p10, p11, p12, p13, p14, p15, p16, p17, p18, p19].getD k 0, rfl, rfl, ?_⟩
  rw [zG0_A0]
  unfold wB
  rw [zIn_A0]
  rfl
/-- a contract in a world with more behind it, or ahead of it -/
theorem zM.fl {g : zG} {l : Launch} {y : MethodName} {ws : List Cond} {rm : Room} {As : List Value} {w : va_W} {post : Option Value → va_W → Prop} {mc ms : Nat} (h : zM g l y ws rm As w post mc ms) (c : va_W) : zM g l y ws rm As (w ++ c) (fun v W => ∃ w', post v w' ∧ W = w' ++ c) mc ms := h.fr [] c
theorem zM.fh {g : zG} {l : Launch} {y : MethodName} {ws : List Cond} {rm : Room} {As : List Value} {w : va_W} {post : Option Value → va_W → Prop} {mc ms : Nat} (h : zM g l y ws rm As w post mc ms) (a : va_W) : zM g l y ws rm As (a ++ w) (fun v W => ∃ w', post v w' ∧ W = a ++ w') mc ms := by
  have h1 := h.fr a []
  rw [List.append_nil] at h1
  refine h1.mono (fun v W => ?_)
  rintro ⟨w', e1, e2⟩
  exact ⟨w', e1, by rw [e2, List.append_nil]⟩
