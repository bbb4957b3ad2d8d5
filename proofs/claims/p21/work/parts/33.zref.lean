theorem zArrI : (FieldType.array .int).toString = "[I" := by decide +kernel
/-! rows of arrays, methods that answer a reference, the script handed to methods, frames -/
section ZRR
variable {g : zG} {l : Launch} {R : Room} {E : zEnv} {Q : State → Prop} {nL cells slots : Nat} {ws ws' : va_W} {lv lv' : List (Nat × Value)} {st rest : List Value} {pc : Nat} {cc : ByteArray} {own : String} {Ts : List Cond} {ret : Option FieldType}
variable {post : Option Value → va_W → Prop} {mc ms : Nat}
theorem z_irem (C : zC g E cc own Ts nL ret) {x y : Int32} (d : decode cc pc = .ok (.irem, 1)) (hne : ¬ y = 0) {v : Int32} (hv : x - x / y * y = v) (k : zW g l R E Q nL cells slots ws lv (.int v :: st) (pc + 1)) : zW g l R E Q nL cells slots ws lv (.int y :: .int x :: st) pc := by
  subst hv; exact fun H locs ls hP hD hS hl => lv_irem C.x C.b d hne (k H locs ls hP hD hS hl)
theorem z_dup2 (C : zC g E cc own Ts nL ret) {va vb : Value} (d : decode cc pc = .ok (.dup2, 1)) (hva : va.category = 1) (hvb : vb.category = 1) (k : zW g l R E Q nL cells slots ws lv (va :: vb :: va :: vb :: st) (pc + 1)) : zW g l R E Q nL cells slots ws lv (va :: vb :: st) pc :=
  fun H locs ls hP hD hS hl => lv_dup2_11 C.x C.b d hva hvb (k H locs ls hP hD hS hl)
theorem z_ifnonnull (C : zC g E cc own Ts nL ret) {x : Nat} {off : Int} (tgt : Nat) (d : decode cc pc = .ok (.ifnonnull off, 3)) (ht : (pc : Int) + off = (tgt : Int)) (k : zW g l R E Q nL cells slots ws lv st tgt) : zW g l R E Q nL cells slots ws lv (.ref x :: st) pc :=
  fun H locs ls hP hD hS hl => lv_ifnonnull C.x C.b d ht (k H locs ls hP hD hS hl)
theorem z_alenZ (C : zC g E cc own Ts nL ret) {a n : Nat} {f : Nat → Int32} (q0 : Nat) (ha : ws[q0]? = some (a, .inl (zZ g, n, .inl f))) (d : decode cc pc = .ok (.arraylength, 1)) (kk : zW g l R E Q nL cells slots ws lv (.int (nI n) :: st) (pc + 1)) : zW g l R E Q nL cells slots ws lv (.ref a :: st) pc :=
  fun H locs ls hP hD hS hl => va_alen C.x C.b C.K.1 hP q0 1 ha (ty := .boolean) rfl rfl d (kk H locs ls hP hD hS hl)
theorem z_alenR (C : zC g E cc own Ts nL ret) {a n : Nat} {f : Nat → Option Nat} (q0 : Nat) (ha : ws[q0]? = some (a, .inl (zJ g, n, .inr (.inr (.inr (.inr f)))))) (d : decode cc pc = .ok (.arraylength, 1)) (kk : zW g l R E Q nL cells slots ws lv (.int (nI n) :: st) (pc + 1)) : zW g l R E Q nL cells slots ws lv (.ref a :: st) pc :=
  fun H locs ls hP hD hS hl => va_alen C.x C.b C.K.1 hP q0 2 ha (ty := .array .int) rfl rfl d (kk H locs ls hP hD hS hl)
theorem z_aald (C : zC g E cc own Ts nL ret) {a n j : Nat} {f : Nat → Option Nat} (q0 : Nat) (ha : ws[q0]? = some (a, .inl (zJ g, n, .inr (.inr (.inr (.inr f)))))) (hj : j < n) (hn : n < 2 ^ 31) (d : decode cc pc = .ok (.aaload, 1)) {v : Nat} (hv : f j = some v) (kk : zW g l R E Q nL cells slots ws lv (.ref v :: st) (pc + 1)) : zW g l R E Q nL cells slots ws lv (.int (nI j) :: .ref a :: st) pc := by
  have e : (nI j).toNatClampNeg = j := nI_clamp (by omega)
  intro H locs ls hP hD hS hl
  have hin := vp_in_nI hj hn
  have hlt : (nI j).toNatClampNeg < n := by rw [e]; exact hj
  exact W.aald (v := .ref v) (ty := .array .int) C.x C.b (hP q0 _ ha) ((C.K.1.2 2 _ rfl).1 n (fun j => va_rf (f j))) rfl (fun q => by cases q) (by show ¬ (nI j < 0 ∨ (arrV _ _ _).slots.size ≤ _); rw [arrV_size]; exact hin) (by show (arrV _ _ _).slots[_]? = _; rw [arrV_read _ _ hlt, e]; show some (va_rf (f j)) = _; rw [hv]; rfl) rfl rfl d (kk H locs ls hP hD hS hl)
theorem z_assignable (vm : Vm) (c : ClassId) : vm.assignable c c = true := by
  show vm.assignableAux (255 + 1) c c = true
  rw [Vm.assignableAux]
  simp only [beq_self_eq_true, Bool.true_or]
theorem z_aast (C : zC g E cc own Ts nL ret) {a n j v n2 : Nat} {f : Nat → Option Nat} {f2 : Nat → Int32} (q0 qk : Nat) (ha : ws[q0]? = some (a, .inl (zJ g, n, .inr (.inr (.inr (.inr f)))))) (hv : ws[qk]? = some (v, .inl (zI g, n2, .inl f2))) (hj : j < n) (hn : n < 2 ^ 31) (d : decode cc pc = .ok (.aastore, 1)) {w' : va_W} (hw : ws.set q0 (a, .inl (zJ g, n, .inr (.inr (.inr (.inr (va_up f j (some v))))))) = w') (kk : zW g l R E Q nL cells slots w' lv st (pc + 1)) : zW g l R E Q nL cells slots ws lv (.ref v :: .int (nI j) :: .ref a :: st) pc := by
  have e : (nI j).toNatClampNeg = j := nI_clamp (by omega)
  intro H locs ls hP hD hS hl
  have hin := vp_in_nI hj hn
  obtain ⟨kA, k1, k2⟩ := C.K.2.2.1
  obtain ⟨-, kI, hkI, -⟩ := (C.K.1.2 0 _ rfl).1 0 (fun _ => .null)
  have hcell := hP q0 _ ha
  have hcv := hP qk _ hv
  refine W.aast C.x C.b hcell (fun q h => by cases h) (fun h => by cases h) k1 k2 rfl hkI ⟨fun h => hin (Or.inl h), ?_⟩ hcv (fun q h => by cases h) hkI (z_assignable _ _) rfl rfl d fun H1 e1 z oq => ?_
  · show _ < (arrV _ _ _).slots.size
    rw [arrV_size, e]; exact hj
  · have e2 : H1[a]? = some (vp_cell (zJ g) (n, .inr (.inr (.inr (.inr (va_up f j (some v))))))) := by
      rw [e1, e, vp_cell_q, vp_cell_q, arrV_store]
      congr 2
      funext q
      by_cases hq : q = j
      · subst hq
        simp [updV, va_up, va_rf]
      · simp [updV, va_up, hq]
    refine kk H1 _ ls ?_ ?_ (hS.put z oq (hD.2 q0 _ ha)) hl
    · rw [← hw]; exact hP.set hD ha e2 oq
    · rw [← hw]; exact hD.set ha
theorem z_newaR (C : zC g E cc own Ts nL ret) {index : Nat} (hclink : (Cond.classLink own index "[I").before (za E) (zs E) = true) {n : Nat} (hn : n < 100000) (hc : cells + 1 ≤ R.cells) (hs : slots + n ≤ R.slots) (d : decode cc pc = .ok (.anewarray index, 3))
    (kk : ∀ q9 : Nat, zW g l R E Q nL (cells + 1) (slots + n) (ws ++ [(q9, .inl (zJ g, n, .inr (.inr (.inr (.inr (fun _ => none))))))]) lv (.ref q9 :: st) (pc + 3)) : zW g l R E Q nL cells slots ws lv (.int (nI n) :: st) pc := by
  intro H locs ls hP hD hS hl
  have hN : (nI n).toNatClampNeg = n := nI_clamp (by omega)
  have e9 : (nI n).toNatClampNeg * 4 ≤ 536870912 := by rw [hN]; omega
  have hcl2 : (Cond.classLink own index (FieldType.array .int).toString).before (za E) (zs E) = true := by rw [zArrI]; exact hclink
  refine W.anewA (t := .int) C.x C.b C.ow hcl2 C.K.2.2.2 rfl d rfl (fun h => ?_) e9 hc (by rw [hN]; exact hs) fun cA kA comp f1 f2 f3 f4 => ?_
  · rw [Int32.lt_iff_toInt_lt, nI_toInt (by omega)] at h
    have h0 : (0 : Int32).toInt = 0 := rfl
    omega
  have e2 := (C.K.1.2 2 (zJ g, .array .int) rfl).2
  have e3 : cA = zJ g := Option.some.inj (f1.symm.trans e2)
  subst e3
  rw [hN]
  generalize hH1 : H.push ({ cls := zJ g, slots := Array.replicate n .null, vm := .none } : Cell) = H1
  have z1 : H1.size = H.size + 1 := by rw [← hH1, Array.size_push]
  have e1 : H1[H.size]? = some (arrV (zJ g) n (fun _ => .null)) := by rw [← hH1, Array.getElem?_push_size, ← arrV_new]
  have o1 : ∀ q : Nat, q < H.size → H1[q]? = H[q]? := fun q hq => by rw [← hH1, Array.getElem?_push, if_neg (Nat.ne_of_lt hq)]
  have hk : ∀ (k : Nat) (x : Nat × va_E), ws[k]? = some x → H1[x.1]? = H[x.1]? := fun k x hx => o1 x.1 ((hP k x hx).lt)
  refine kk H.size H1 locs ls ((hP.kept hk).app (fun k x hx => ?_)) (hD.push hP rfl (C.A _ hS.1)) ⟨Nat.le_trans hS.1 (by omega), fun x h1 h2 => (o1 x (Nat.lt_of_lt_of_le h1 hS.1)).trans (hS.2.1 x h1 h2), hS.2.2⟩ hl
  have hz : k < 1 := (List.getElem?_eq_some_iff.mp hx).1
  rw [show k = 0 by omega] at hx
  cases hx
  show H1[H.size]? = some (vp_cell _ _)
  rw [vp_cell_q]
  exact e1
theorem z_aret {rt : FieldType} (hrt : (∃ n, rt = .object n) ∨ ∃ t, rt = .array t) (C : zC g E cc own Ts nL (some rt)) {x : Nat} (d : decode cc pc = .ok (.areturn, 1)) (hp : post (some (.ref x)) ws) : zW g l R E (zMQ g E post cells slots) nL cells slots ws lv [.ref x] pc :=
  fun H locs ls hP hD hS hl => W.aret C.x C.b C.r hrt (Or.inr ⟨x, rfl⟩) (z_ret_q hP hD hS hp) hS.2.2 d C.lk
-- the script
def zSc (E : zEnv) (b L : Nat) (xs : Nat → Int32) : Prop := va_X b L xs (zs E) (zs E).heap ∧ b < (zs E).heap.size ∧ ¬ zA E b ∧ L ≤ 260
theorem z_sld (C : zC g E cc own Ts nL ret) {b L : Nat} {xs : Nat → Int32} (S : zSc E b L xs) {j : Nat} (hj : j < L) (d : decode cc pc = .ok (.iaload, 1)) (kk : zW g l R E Q nL cells slots ws lv (.int (xs j) :: st) (pc + 1)) : zW g l R E Q nL cells slots ws lv (.int (nI j) :: .ref b :: st) pc := by
  have hL := S.2.2.2
  have e : (nI j).toNatClampNeg = j := nI_clamp (by omega)
  intro H locs ls hP hD hS hl
  refine va_sld C.x C.b S.1 S.2.1 S.2.2.1 hS (fun h => ?_) d ?_
  · rcases h with h | h
    · rw [Int32.lt_iff_toInt_lt, nI_toInt (by omega)] at h
      have h0 : (0 : Int32).toInt = 0 := rfl
      omega
    · rw [e] at h; omega
  · rw [e]; exact kk H locs ls hP hD hS hl
theorem z_slen (C : zC g E cc own Ts nL ret) {b L : Nat} {xs : Nat → Int32} (S : zSc E b L xs) (d : decode cc pc = .ok (.arraylength, 1)) (kk : zW g l R E Q nL cells slots ws lv (.int (nI L) :: st) (pc + 1)) : zW g l R E Q nL cells slots ws lv (.ref b :: st) pc :=
  fun H locs ls hP hD hS hl => va_slen C.x C.b S.1 S.2.1 S.2.2.1 hS d (kk H locs ls hP hD hS hl)
def zPx (g : zG) (As : List Value) (w : va_W) (sz b L : Nat) (xs : Nat → Int32) : Array Value → State → Prop := va_Pc As (fun U => U.heap.size = sz ∧ va_P g.1 vwCl w U.heap ∧ zK g U ∧ va_D (fun _ => True) w ∧ va_X b L xs U U.heap ∧ ∀ (k : Nat) (e : Nat × va_E), w[k]? = some e → e.1 ≠ b)
/-- a method that returns, and may read the script -/
def zMx (g : zG) (l : Launch) (b L : Nat) (xs : Nat → Int32) (y : MethodName) (ws : List Cond) (rm : Room) (As : List Value) (w : va_W) (post : Option Value → va_W → Prop) (mc ms : Nat) : Prop :=
  ∀ sz : Nat, Met l y ws rm (zPx g As w sz b L xs) (zQ g post (va_A w sz)) mc ms (va_A w sz)
theorem zPx.blind {g : zG} {As : List Value} {w : va_W} {sz b L : Nat} {xs : Nat → Int32} : FrameBlind (zPx g As w sz b L xs) := fun a U f mk q => by
  obtain ⟨q0, q1, qP, qK, qD, qX, qb⟩ := q
  exact ⟨q0, q1, qP, qK.call, qD, va_X.moved (u := U) (U := U.calling f mk a) (Vm.Alike.refl U.vm) qX, qb⟩
theorem zMx.of {y : MethodName} {rm : Room} {As : List Value} {w : va_W} {Ts' : List Cond} {b L : Nat} {xs : Nat → Int32} (hL : L ≤ 260) (hy : plainName y.cls = true) (hw : Ts = .code y cc nL ret :: Ts') (hn : (lg_sl As).length ≤ nL) (hlv : lv_args 0 As = lv)
    (body : ∀ E : zEnv, zC g E cc y.cls Ts nL ret → zSc E b L xs → zW g l rm E (zMQ g E post mc ms) nL 0 0 w lv [] 0) : zMx g l b L xs y Ts rm As w post mc ms := by
  intro sz
  refine Met.ofW hy hw ?_
  intro p e s m args below meth c s₁ B hml hv
  obtain ⟨rfl, hsz, hP, hK, hD0, hX, hb⟩ := hv
  have hts := atoms_spec (ws := Ts) B.pre
  have hD := hD0.self (sz := s.heap.size)
  subst hsz
  have hbs : b < s.heap.size := by
    obtain ⟨scr, h1, -⟩ := hX
    exact (Array.getElem?_eq_some_iff.mp h1).1
  have h := body (p, e, s, m, As.toArray, below, meth, c, va_A w s.heap.size) ⟨B.exec, B.bytes, hml, findClass_of_methodNamed B.named, hts, hK, fun q h => Or.inr h, B.notSynchronized, B.returns⟩ ⟨hX, hbs, fun h => by
    rcases h with ⟨k, e9, h9⟩ | h9
    · exact hb k _ h9 rfl
    · exact absurd hbs (Nat.not_lt.mpr h9), hL⟩
  have hl := lv_entry As (n := nL) hn
  rw [hlv] at hl
  rw [lg_entry_eq]
  exact h s.heap [] _ hP hD va_S.rf hl
theorem z_pcX {w : va_W} {H : Heap} {As : List Value} {locs : List Loc} {b L : Nat} {xs : Nat → Int32} (hK : zK g (zs E)) (S : zSc E b L xs) (hP : va_P g.1 vwCl w H) (hD : va_D (zA E) w) (hS : va_S (zA E) (zs E).heap H locs) : PreS (zs E) H (zPx g As w H.size b L xs) As :=
  ⟨zPx.blind, fun U hU hW => ⟨rfl, by rw [hU], by rw [hU]; exact hP, hK.warm hW, hD.weaken fun _ _ _ _ => trivial, by rw [hU]; exact va_X.moved hW.alike (S.1.kept (hS.2.1 b S.2.1 S.2.2.1)), fun k e h h9 => S.2.2.1 (by rw [← h9]; exact hD.2 k e h)⟩⟩
theorem z_callSx (C : zC g E cc own Ts nL ret) {b L : Nat} {xs : Nat → Int32} (S : zSc E b L xs) {y : MethodName} {bytes : ByteArray} {maxL n index : Nat} {rt : Option FieldType} {wy : List Cond} {rm : Room} {As : List Value}
    (hM : zMx g l b L xs y wy rm As ws post mc ms) (cw : CallB R (zs E) (za E) own index y bytes maxL rt wy rm mc ms n ∧ (Cond.static y).before (za E) (zs E) = true) (hn : As.length = n) (hst : st = As.reverse ++ rest) (hr : (rest.map fun v => v.category).sum ≤ 8) (d : decode cc pc = .ok (.invokestatic index, 3)) (hf : cells + mc ≤ R.cells ∧ slots + ms ≤ R.slots)
    (kk : ∀ v w', post v w' → zW g l R E Q nL (cells + mc) (slots + ms) w' lv (v.toList ++ rest) (pc + 3)) : zW g l R E Q nL cells slots ws lv st pc :=
  z_go (fun H locs ls hP hD hS hl => va_runS C.fx (hM H.size) cw (z_pcX C.K S hP hD hS) rfl hn hl.1 hst (lv_room hr) d hf) C.A kk
end ZRR
theorem zBn (b : Bool) : bI b = 1 ↔ b = true := by cases b <;> decide
theorem zdivmod_bit (n k : Nat) : n / 2 ^ k % 2 = if n.testBit k = true then 1 else 0 := by
  rw [Nat.testBit_eq_decide_div_mod_eq]
  have h : n / 2 ^ k % 2 < 2 := Nat.mod_lt _ (by decide)
  by_cases e : n / 2 ^ k % 2 = 1
  · rw [e]; rfl
  · rw [show n / 2 ^ k % 2 = 0 by omega]; rfl
theorem zrem_bit {n k : Nat} (h : n / 2 ^ k < 2147483648) : nI (n / 2 ^ k) - nI (n / 2 ^ k) / nI 2 * nI 2 = bI (n.testBit k) := by
  rw [pk_rem h (by decide) (by decide), zdivmod_bit]
  cases n.testBit k <;> rfl
theorem zeq_B1 (b : Bool) : bI b = nI 1 ↔ b = true := by cases b <;> decide
