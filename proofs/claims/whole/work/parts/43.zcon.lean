/-! worlds that grow: frames, new arrays, new objects, copies -/
theorem zf_l {α : Type} {a b c : List α} {k : Nat} {q : α} (h : a[k]? = some q) : ((a ++ b) ++ c)[k]? = some q := by
  have h1 := (List.getElem?_eq_some_iff.mp h).1
  rw [List.getElem?_append_left (by rw [List.length_append]; omega), List.getElem?_append_left h1]
  exact h
theorem zf_m {α : Type} {a b c : List α} {k : Nat} {q : α} (h : b[k]? = some q) : ((a ++ b) ++ c)[a.length + k]? = some q := by
  have h1 := (List.getElem?_eq_some_iff.mp h).1
  rw [List.getElem?_append_left (by rw [List.length_append]; omega), List.getElem?_append_right (by omega), show a.length + k - a.length = k by omega]
  exact h
theorem zf_r {α : Type} {a b c : List α} {k : Nat} {q : α} (h : c[k]? = some q) : ((a ++ b) ++ c)[a.length + b.length + k]? = some q := by
  rw [List.getElem?_append_right (by rw [List.length_append]; omega), List.length_append, show a.length + b.length + k - (a.length + b.length) = k by omega]
  exact h
theorem zfP {D : va_G} {cl : List vw_C} {a b c : va_W} {H : Heap} (h : va_P D cl ((a ++ b) ++ c) H) : va_P D cl a H ∧ va_P D cl b H ∧ va_P D cl c H :=
  ⟨fun k q hk => h k q (zf_l hk), fun k q hk => h _ q (zf_m hk), fun k q hk => h _ q (zf_r hk)⟩
theorem zfD {A : Nat → Prop} {a b c : va_W} (h : va_D A ((a ++ b) ++ c)) : va_D A b := by
  refine ⟨fun i j p q hi hj e => ?_, fun k q hk => h.2 _ q (zf_m hk)⟩
  have := h.1 _ _ p q (zf_m hi) (zf_m hj) e
  omega
theorem zf_in {b : va_W} {sz x : Nat} {a c : va_W} (h : va_A b sz x) : va_A ((a ++ b) ++ c) sz x := by
  rcases h with ⟨k, e, h⟩ | h
  · exact Or.inl ⟨_, e, zf_m h⟩
  · exact Or.inr h
theorem zf_go {D : va_G} {cl : List vw_C} {a b c b' : va_W} {st t : State} (hP : va_P D cl ((a ++ b) ++ c) st.heap) {A : Nat → Prop} (hD : va_D A ((a ++ b) ++ c)) (hP' : va_P D cl b' t.heap) (hD' : va_D (va_A b st.heap.size) b') (hF : va_F (va_A b st.heap.size) st t) :
    va_P D cl ((a ++ b') ++ c) t.heap ∧ va_D (va_A ((a ++ b) ++ c) st.heap.size) ((a ++ b') ++ c) ∧ va_F (va_A ((a ++ b) ++ c) st.heap.size) st t := by
  obtain ⟨hPa, hPb, hPc⟩ := zfP hP
  have na : ∀ (k : Nat) (q : Nat × va_E), a[k]? = some q → ¬ va_A b st.heap.size q.1 := by
    intro k q hk h
    rcases h with ⟨j, e, h⟩ | h
    · have h1 := hD.1 _ _ q (q.1, e) (zf_l hk) (zf_m h) rfl
      have h2 := (List.getElem?_eq_some_iff.mp hk).1
      omega
    · have := (hPa k q hk).lt
      omega
  have nc : ∀ (k : Nat) (q : Nat × va_E), c[k]? = some q → ¬ va_A b st.heap.size q.1 := by
    intro k q hk h
    rcases h with ⟨j, e, h⟩ | h
    · have h1 := hD.1 _ _ q (q.1, e) (zf_r hk) (zf_m h) rfl
      have h2 := (List.getElem?_eq_some_iff.mp h).1
      omega
    · have := (hPc k q hk).lt
      omega
  have nac : ∀ (i j : Nat) (p q : Nat × va_E), a[i]? = some p → c[j]? = some q → p.1 ≠ q.1 := by
    intro i j p q hi hj e
    have h1 := hD.1 _ _ p q (zf_l hi) (zf_r hj) e
    have h2 := (List.getElem?_eq_some_iff.mp hi).1
    omega
  have Pa : va_P D cl a t.heap := hPa.kept (fun k q hk => hF.2 q.1 (hPa k q hk).lt (na k q hk))
  have Pc : va_P D cl c t.heap := hPc.kept (fun k q hk => hF.2 q.1 (hPc k q hk).lt (nc k q hk))
  refine ⟨(Pa.app hP').app Pc, ?_, hF.1, fun q h1 h2 => hF.2 q h1 (fun h => h2 (zf_in h))⟩
  have Da : va_D (va_A ((a ++ b) ++ c) st.heap.size) a := ⟨fun i j p q hi hj e => hD.1 _ _ p q (zf_l hi) (zf_l hj) e, fun k q hk => va_A.in (zf_l hk)⟩
  have Dc : va_D (va_A ((a ++ b) ++ c) st.heap.size) c := by
    refine ⟨fun i j p q hi hj e => ?_, fun k q hk => va_A.in (zf_r hk)⟩
    have := hD.1 _ _ p q (zf_r hi) (zf_r hj) e
    omega
  have Db : va_D (va_A ((a ++ b) ++ c) st.heap.size) b' := hD'.weaken (fun k q _ h => zf_in h)
  refine (Da.app Db (fun i j p q hi hj e => na i p hi (by rw [e]; exact hD'.2 j q hj))).app Dc (fun i j p q hi hj e => ?_)
  by_cases h : i < a.length
  · rw [List.getElem?_append_left h] at hi
    exact nac _ _ _ _ hi hj e
  · rw [List.getElem?_append_right (by omega)] at hi
    exact nc j q hj (by rw [← e]; exact hD'.2 _ p hi)
/-- a method's contract in a wider world -/
theorem zM.fr {g : zG} {l : Launch} {y : MethodName} {ws : List Cond} {rm : Room} {As : List Value} {w : va_W} {post : Option Value → va_W → Prop} {mc ms : Nat} (h : zM g l y ws rm As w post mc ms) (a c : va_W) : zM g l y ws rm As ((a ++ w) ++ c) (fun v W => ∃ w', post v w' ∧ W = (a ++ w') ++ c) mc ms := by
  intro sz p e ha hc hk s m args below hf happ hP hT
  obtain ⟨e0, e1, qP, qK, qD⟩ := hP
  obtain ⟨t, o, h1, h2, h3, ⟨⟨⟨v, w', e1', e2, eP, eD⟩, hF⟩, L, hL1, hL2⟩⟩ := h sz p e ha hc hk s m args below hf happ ⟨e0, e1, (zfP qP).2.1, qK, zfD qD⟩ hT
  subst e1
  obtain ⟨g1, g2, g3⟩ := zf_go qP qD eP eD hF
  exact ⟨t, o, h1, h2, h3, ⟨⟨v, (a ++ w') ++ c, e1', ⟨w', e2, rfl⟩, g1, g2⟩, g3⟩, L, hL1, fun q hq => zf_in (hL2 q hq)⟩
section ZR9
variable {g : zG} {l : Launch} {R : Room} {E : zEnv} {Q : State → Prop} {nL cells slots : Nat} {ws ws' : va_W} {lv lv' : List (Nat × Value)} {st rest : List Value} {pc : Nat} {cc : ByteArray} {own : String} {Ts : List Cond} {ret : Option FieldType}
/-- some of the world is forgotten -/
theorem zW.fewer (a b c : va_W) (h : ws = (a ++ b) ++ c) (k : zW g l R E Q nL cells slots b lv st pc) : zW g l R E Q nL cells slots ws lv st pc := by
  subst h
  exact fun H locs ls hP hD hS hl => k H locs ls (zfP hP).2.1 (zfD hD) hS hl
theorem z_newaI (C : zC g E cc own Ts nL ret) (harr : (Cond.arrayClass .int).before (za E) (zs E) = true) {n : Nat} (hn : n < 100000) (hc : cells + 1 ≤ R.cells) (hs : slots + n ≤ R.slots) (d : decode cc pc = .ok (.newarray .int, 2))
    (kk : ∀ q9 : Nat, zW g l R E Q nL (cells + 1) (slots + n) (ws ++ [(q9, .inl (zI g, n, .inl (fun _ => nI 0)))]) lv (.ref q9 :: st) (pc + 2)) : zW g l R E Q nL cells slots ws lv (.int (nI n) :: st) pc := by
  intro H locs ls hP hD hS hl
  refine va_newa (atype := .int) (ty := .int) (n := nI n) (N' := n) (a0 := (n, .inl (fun _ => nI 0))) C.x C.b harr rfl C.K.1 hP hD hS C.A (fun cA => rfl) (fun h => ?_) ?_ (by show n * 4 ≤ _; omega) hc hs d ?_
  · rw [Int32.lt_iff_toInt_lt, nI_toInt (by omega)] at h
    have h0 : (0 : Int32).toInt = 0 := rfl
    omega
  · show (nI n).toInt.toNat = n
    rw [nI_toInt (by omega)]; rfl
  · intro q9 cA H1 hK1 hP1 hD1 hS1
    have e1 := (hK1.2 3 (cA, .int) rfl).2
    have e2 := (hK1.2 0 (zI g, .int) rfl).2
    have e3 : cA = zI g := Option.some.inj (e1.symm.trans e2)
    subst e3
    exact kk q9 H1 locs ls hP1 hD1 hS1 hl
theorem z_newaZ (C : zC g E cc own Ts nL ret) (harr : (Cond.arrayClass .boolean).before (za E) (zs E) = true) {n : Nat} (hn : n < 100000) (hc : cells + 1 ≤ R.cells) (hs : slots + n ≤ R.slots) (d : decode cc pc = .ok (.newarray .boolean, 2))
    (kk : ∀ q9 : Nat, zW g l R E Q nL (cells + 1) (slots + n) (ws ++ [(q9, .inl (zZ g, n, .inl (fun _ => nI 0)))]) lv (.ref q9 :: st) (pc + 2)) : zW g l R E Q nL cells slots ws lv (.int (nI n) :: st) pc := by
  intro H locs ls hP hD hS hl
  refine va_newa (atype := .boolean) (ty := .boolean) (n := nI n) (N' := n) (a0 := (n, .inl (fun _ => nI 0))) C.x C.b harr rfl C.K.1 hP hD hS C.A (fun cA => rfl) (fun h => ?_) ?_ (by show n * 1 ≤ _; omega) hc hs d ?_
  · rw [Int32.lt_iff_toInt_lt, nI_toInt (by omega)] at h
    have h0 : (0 : Int32).toInt = 0 := rfl
    omega
  · show (nI n).toInt.toNat = n
    rw [nI_toInt (by omega)]; rfl
  · intro q9 cA H1 hK1 hP1 hD1 hS1
    have e1 := (hK1.2 3 (cA, .boolean) rfl).2
    have e2 := (hK1.2 1 (zZ g, .boolean) rfl).2
    have e3 : cA = zZ g := Option.some.inj (e1.symm.trans e2)
    subst e3
    exact kk q9 H1 locs ls hP1 hD1 hS1 hl
theorem z_new (C : zC g E cc own Ts nL ret) {C2 : String} {T : u_T} {N ci index : Nat} (hin : ∀ w ∈ u_ws C2 T N, w ∈ Ts) (ty : Nat → FieldType) (hty : ∀ k, k < N → parseFieldDescriptor (T k).2.2.1 = some (ty k)) (hcl : (Cond.classLink own index C2).before (za E) (zs E) = true) (hinst : (Cond.instantiable C2 N).before (za E) (zs E) = true) (hini : (Cond.initialized C2).before (za E) (zs E) = true)
    (hc9 : vwCl[ci]? = some (C2, T, N)) (fs : List Value) (hfs : ∀ j, j < N → defaultValue (ty j) = vp_V fs j) (hc : cells + 1 ≤ R.cells) (hs : slots + N ≤ R.slots) (d : decode cc pc = .ok (.new index, 3))
    (kk : ∀ q9 : Nat, zW g l R E Q nL (cells + 1) (slots + N) (ws ++ [(q9, .inr (ci, fs))]) lv (.ref q9 :: st) (pc + 3)) : zW g l R E Q nL cells slots ws lv st pc := by
  intro H locs ls hP hD hS hl
  exact va_new C.x C.b C.ts hin ty hty C.ow hcl hinst hini C.K.1 hP hD hS C.A hc9 hfs hc hs d (fun q9 H1 hP1 hD1 hS1 => kk q9 H1 locs ls hP1 hD1 hS1 hl)
/-- System.arraycopy over two int arrays -/
theorem z_copyI (C : zC g E cc own Ts nL ret) {index : Nat} (hlink : (Cond.methodLink own index arraycopyName).before (za E) (zs E) = true) (hnat : (Cond.native arraycopyName).before (za E) (zs E) = true) (hstat : (Cond.static arraycopyName).before (za E) (zs E) = true) (hini : (Cond.initialized "java/lang/System").before (za E) (zs E) = true)
    (q0 q1 : Nat) {a0 a1 n0 n1 sp dp n : Nat} {f f1 : Nat → Int32} (h0 : ws[q0]? = some (a0, .inl (zI g, n0, .inl f))) (h1 : ws[q1]? = some (a1, .inl (zI g, n1, .inl f1))) (h2 : sp + n ≤ n0) (h3 : dp + n ≤ n1) (hn0 : n0 < 100000) (hn1 : n1 < 100000)
    (hfr : 1 ≤ R.frames) (hlo : (rest.map fun v => v.category).sum + (nativeFrameWords "java/lang/System" "arraycopy" 5 + 11) ≤ R.locals) (d : decode cc pc = .ok (.invokestatic index, 3))
    {w' : va_W} (hw : ws.set q1 (a1, .inl (zI g, n1, .inl (va_cpy f f1 sp dp n))) = w') (kk : zW g l R E Q nL cells slots w' lv rest (pc + 3)) : zW g l R E Q nL cells slots ws lv (.int (nI n) :: .int (nI dp) :: .ref a1 :: .int (nI sp) :: .ref a0 :: rest) pc := by
  intro H locs ls hP hD hS hl
  have neg : ∀ k : Nat, k < 100000 → ¬ nI k < 0 := by
    intro k hk h
    rw [Int32.lt_iff_toInt_lt, nI_toInt (by omega)] at h
    have h0 : (0 : Int32).toInt = 0 := rfl
    omega
  have cl : ∀ k : Nat, k < 100000 → (nI k).toNatClampNeg = k := by
    intro k hk
    show (nI k).toInt.toNat = k
    rw [nI_toInt (by omega)]; rfl
  have hsp := cl sp (by omega)
  have hdp := cl dp (by omega)
  have hnn := cl n (by omega)
  refine va_copyi C.x C.b (C.2.2.1.trans hl.1.symm) C.ow hlink hnat hstat hini C.K.1 hP hD hS q0 q1 0 0 (ty := .int) h0 h1 rfl rfl rfl (neg sp (by omega)) (neg dp (by omega)) (neg n (by omega)) (by omega) (by omega) (fun i _ => rfl) hfr hlo d ?_
  rw [hsp, hdp, hnn]
  intro H1 locs1 hP1 hD1 hS1
  rw [hw] at hP1 hD1
  exact kk H1 locs1 ls hP1 hD1 hS1 hl
end ZR9
