/-! rows for constructors and for the law: new cells, calls over a part of the cells, the script -/
theorem vP_l {D : va_G} {cl : List vw_C} {w1 w2 : va_W} {H : Heap} (h : va_P D cl (w1 ++ w2) H) : va_P D cl w1 H := fun k q hk => h k q (by rw [List.getElem?_append_left (List.getElem?_eq_some_iff.mp hk).1]; exact hk)
theorem vP_r {D : va_G} {cl : List vw_C} {w1 w2 : va_W} {H : Heap} (h : va_P D cl (w1 ++ w2) H) : va_P D cl w2 H := fun k q hk => h (w1.length + k) q (by rw [List.getElem?_append_right (by omega), show w1.length + k - w1.length = k by omega]; exact hk)
theorem vD_l {A : Nat → Prop} {w1 w2 : va_W} (h : va_D A (w1 ++ w2)) : va_D A w1 := by
  have e : ∀ (k : Nat) (q : Nat × va_E), w1[k]? = some q → (w1 ++ w2)[k]? = some q := fun k q hk => by rw [List.getElem?_append_left (List.getElem?_eq_some_iff.mp hk).1]; exact hk
  exact ⟨fun i j p q hi hj => h.1 i j p q (e i p hi) (e j q hj), fun k q hk => h.2 k q (e k q hk)⟩
theorem vD_r {A : Nat → Prop} {w1 w2 : va_W} (h : va_D A (w1 ++ w2)) : va_D A w2 := by
  have e : ∀ (k : Nat) (q : Nat × va_E), w2[k]? = some q → (w1 ++ w2)[w1.length + k]? = some q := fun k q hk => by rw [List.getElem?_append_right (by omega), show w1.length + k - w1.length = k by omega]; exact hk
  exact ⟨fun i j p q hi hj z => by have := h.1 _ _ p q (e i p hi) (e j q hj) z; omega, fun k q hk => h.2 _ q (e k q hk)⟩
theorem vD_x {A : Nat → Prop} {w1 w2 : va_W} (h : va_D A (w1 ++ w2)) : ∀ (i j : Nat) (p q : Nat × va_E), w1[i]? = some p → w2[j]? = some q → p.1 ≠ q.1 := by
  intro i j p q hi hj z
  have h1 := (List.getElem?_eq_some_iff.mp hi).1
  have := h.1 i (w1.length + j) p q (by rw [List.getElem?_append_left h1]; exact hi) (by rw [List.getElem?_append_right (by omega), show w1.length + j - w1.length = j by omega]; exact hj) z
  omega
theorem vA_not {w : va_W} {sz q : Nat} (h1 : ∀ (j : Nat) (x : Nat × va_E), w[j]? = some x → q ≠ x.1) (h2 : q < sz) : ¬ va_A w sz q := by
  intro z
  rcases z with ⟨k, e, z⟩ | z
  · exact h1 k _ z rfl
  · omega
/-- a constructor's contract: the addresses of its new cells are free -/
def CtrN (g : Gl) (y : MethodName) (ws : List Cond) (rm : Room) (As : List Value) (w : va_W) (V : (Nat → Nat) → va_W) (k n : Nat) : Prop :=
  ∀ (l : Launch) (sz : Nat), Met l y ws rm (va_Pc As (fun U => U.heap.size = sz ∧ va_P (gD g) vwCl w U.heap ∧ Env0 g (va_A w sz) U U.heap ∧ va_D (fun _ => True) w)) (fun _ st oc t => (oc = .returned none ∧ ∃ ad : Nat → Nat, va_P (gD g) vwCl (V ad) t.heap ∧ va_D (va_A w sz) (V ad)) ∧ va_F (va_A w sz) st t) k n (va_A w sz)
def FnN (g : Gl) (X : Cx) (V : (Nat → Nat) → va_W) (k n : Nat) : Prop :=
  match X with
  | (_, _, _, _, s, _, args, below, meth, _, A, _, Q) => meth.name = "<init>" ∧ ∃ Qc : Array Value → State → Outcome → State → Prop, Q = MQ below Qc args s k n A ∧ ∀ (ad : Nat → Nat) (H : Heap) (locs : List Loc), va_P (gD g) vwCl (V ad) H → va_D A (V ad) → va_S A s.heap H locs → ∀ t : State, t.heap = H → s.WarmedH t.vm → Qc args s (.returned none) t
theorem CtrN.start {g : Gl} {y : MethodName} {ws ws' : List Cond} {rm : Room} {As : List Value} {w : va_W} {V : (Nat → Nat) → va_W} {k n : Nat} {cc : ByteArray} {maxL : Nat} (hy : plainName y.cls = true) (hn : y.name = "<init>") (hw : ws = Cond.code y cc maxL none :: ws') (hlen : (lg_sl As).length ≤ maxL) {lv0 : List (Nat × Value)} (hlv : lv_args 0 As = lv0)
    (body : ∀ X : Cx, Ok g X cc y.cls ws rm none maxL → FnN g X V k n → G g X (0, 0) w 0 lv0 []) : CtrN g y ws rm As w V k n := by
  subst hlv
  intro l sz
  refine Met.ofW (cc := cc) (maxL := maxL) (ret := none) hy hw ?_
  intro p e s m args below meth c s₁ B hml hv
  obtain ⟨rfl, hsz, hP, hE, hD0⟩ := hv
  subst hsz
  have hin : meth.name = "<init>" := ((name_of_methodNamed B.named B.method).1).trans hn
  have hb := body (p, l, e, (headSpec ws rm).room, s, m, As.toArray, below, meth, c, va_A w s.heap.size, maxL, MQ below (fun _ st oc t => (oc = .returned none ∧ ∃ ad : Nat → Nat, va_P (gD g) vwCl (V ad) t.heap ∧ va_D (va_A w s.heap.size) (V ad)) ∧ va_F (va_A w s.heap.size) st t) As.toArray s k n (va_A w s.heap.size))
    ⟨B.exec, B.bytes, hml, findClass_of_methodNamed B.named, atoms_spec (ws := ws) B.pre, hE, fun q h => Or.inr h, rfl, B.returns, B.notSynchronized, rfl⟩
    ⟨hin, _, rfl, fun ad H locs hP hD hS t ht hW => ⟨⟨rfl, ad, by rw [ht]; exact hP, hD⟩, hS.F ht⟩⟩
  rw [lg_entry_eq]
  exact hb s.heap [] _ hP hD0.self va_S.rf (lv_entry As hlen)
section GN
variable {g : Gl} {X : Cx} {cc : ByteArray} {own : String} {Ts : List Cond} {rm : Room} {ret : Option FieldType} {nL : Nat} {q : Nat × Nat} {ws : va_W} {pc : Nat} {lv : List (Nat × Value)} {rest : List Value}
theorem g_vretN {V : (Nat → Nat) → va_W} {k n : Nat} (C : Ok g X cc own Ts rm none nL) (F : FnN g X V k n) (ad : Nat → Nat) (hw : ws = V ad) (d : decode cc pc = .ok (.return_, 1)) : G g X (k, n) ws pc lv [] := by
  subst hw
  obtain ⟨p, l, e, R, s, m, args, below, meth, c, A, n9, Q⟩ := X
  obtain ⟨hx, hb, hml, hown, hts, hE, hA, rfl, hr, hlk, rfl⟩ := C
  intro H locs ls hP hD hS hl
  obtain ⟨-, Qc, rfl, F⟩ := F
  exact W.vret hx hb hr (F ad H locs hP hD hS) hS.2.2 d hlk
theorem g_objInit (C : Ok g X cc own Ts rm ret nL) {idx a : Nat} (hm1 : Cond.methodLink own idx objectInit ∈ Ts) (hm2 : Cond.instanceMethod objectInit ∈ Ts) (hm3 : Cond.code objectInit ⟨#[0xb1]⟩ 1 none ∈ Ts) (hR : 1 ≤ rm.frames ∧ 12 ≤ rm.locals) (d : decode cc pc = .ok (.invokespecial idx, 3)) (k : G g X q ws (pc + 3) lv []) : G g X q ws pc lv [.ref a] := by
  obtain ⟨p, l, e, R, s, m, args, below, meth, c, A, n9, Q⟩ := X
  obtain ⟨hx, hb, hml, hown, hts, hE, hA, rfl, hr, hlk, rfl⟩ := C
  intro H locs ls hP hD hS hl
  refine W.objInit hx hb hown (hts _ hm1) (hts _ hm2) (hts _ hm3) rfl (by rw [hml]; exact hl.1) rfl d hR.1 hR.2 ?_
  exact W.eq rfl (k H locs ls hP hD hS hl)
theorem g_newaB (C : Ok g X cc own Ts rm ret nL) (hm : Cond.arrayClass .byte ∈ Ts) (hR : q.1 + 1 ≤ rm.cells ∧ q.2 + 16000 ≤ rm.slots) (d : decode cc pc = .ok (.newarray .byte, 2)) (k : ∀ a : Nat, G g X (q.1 + 1, q.2 + 16000) (ws ++ [(a, .inl (gB g, 16000, .inl (fun _ => 0)))]) (pc + 2) lv (.ref a :: rest)) : G g X q ws pc lv (.int 16000 :: rest) := by
  obtain ⟨p, l, e, R, s, m, args, below, meth, c, A, n9, Q⟩ := X
  obtain ⟨hx, hb, hml, hown, hts, hE, hA, rfl, hr, hlk, rfl⟩ := C
  intro H locs ls hP hD hS hl
  refine va_newa (a0 := (16000, .inl (fun _ => 0))) (N' := 16000) (atype := .byte) hx hb (ty := .byte) (hts _ hm) rfl hE.1 hP hD hS hA (fun cA => rfl) (by decide) (by decide) (by decide) hR.1 hR.2 d ?_
  intro a cA H1 hK1 hP1 hD1 hS1
  have e1 : cA = gB g := Option.some.inj ((show s.vm.findClass _ = some cA from (hK1.2 2 (cA, .byte) rfl).2).symm.trans (show s.vm.findClass _ = some (gB g) from (hE.1.2 0 (gB g, .byte) rfl).2))
  subst e1
  exact k a H1 locs ls hP1 hD1 hS1 hl
theorem g_newaI (C : Ok g X cc own Ts rm ret nL) (hm : Cond.arrayClass .int ∈ Ts) (hR : q.1 + 1 ≤ rm.cells ∧ q.2 + 16000 ≤ rm.slots) (d : decode cc pc = .ok (.newarray .int, 2)) (k : ∀ a : Nat, G g X (q.1 + 1, q.2 + 16000) (ws ++ [(a, .inl (gI g, 16000, .inl (fun _ => 0)))]) (pc + 2) lv (.ref a :: rest)) : G g X q ws pc lv (.int 16000 :: rest) := by
  obtain ⟨p, l, e, R, s, m, args, below, meth, c, A, n9, Q⟩ := X
  obtain ⟨hx, hb, hml, hown, hts, hE, hA, rfl, hr, hlk, rfl⟩ := C
  intro H locs ls hP hD hS hl
  refine va_newa (a0 := (16000, .inl (fun _ => 0))) (N' := 16000) (atype := .int) hx hb (ty := .int) (hts _ hm) rfl hE.1 hP hD hS hA (fun cA => rfl) (by decide) (by decide) (by decide) hR.1 hR.2 d ?_
  intro a cA H1 hK1 hP1 hD1 hS1
  have e1 : cA = gI g := Option.some.inj ((show s.vm.findClass _ = some cA from (hK1.2 2 (cA, .int) rfl).2).symm.trans (show s.vm.findClass _ = some (gI g) from (hE.1.2 1 (gI g, .int) rfl).2))
  subst e1
  exact k a H1 locs ls hP1 hD1 hS1 hl
theorem g_putF0 {V : (Nat → Nat) → va_W} {k n : Nat} (C : Ok g X cc RX0 Ts rm ret nL) (F : FnN g X V k n) (hin : ∀ w ∈ wsX00, w ∈ Ts) {idx a : Nat} {fs : List Value} {v : Value} {ws' : va_W} (o : Nat) (he : ws[o]? = some (a, .inr (0, fs))) (k0 : Nat) (hk : k0 < 13) (hm : Cond.fieldLink RX0 idx (TX0 k0).1 (TX0 k0).2.1 (TX0 k0).2.2.1 ∈ Ts) (hf : (TX0 k0).2.2.2 = true) (hdc : (TX0 k0).1 = RX0) (hn : narrow (tyX0 k0) v = v) (hfit : fits (tyX0 k0) v = true) (hl0 : k0 < fs.length) (hw : ws.set o (a, .inr (0, fs.set k0 v)) = ws') (d : decode cc pc = .ok (.putfield idx, 3)) (kk : G g X q ws' (pc + 3) lv rest) : G g X q ws pc lv (v :: .ref a :: rest) := by
  obtain ⟨p, l, e, R, s, m, args, below, meth, c, A, n9, Q⟩ := X
  obtain ⟨hx, hb, hml, hown, hts, hE, hA, rfl, hr, hlk, rfl⟩ := C
  intro H locs ls hP hD hS hl
  subst hw
  exact va_putF (C := RX0) (T := TX0) (N := 13) (ref := (TX0 k0).1) hx hb hts hin tyX0 tyX0_ok nmX0 hown hE.1 hP hD hS o he rfl k0 hk (hts _ hm) (fun _ h => h) hf F.1 hdc (tyX0_ok k0 hk) hn hfit hl0 d (fun H locs hP hD hS => kk H locs ls hP hD hS hl)
theorem g_putF1 {V : (Nat → Nat) → va_W} {k n : Nat} (C : Ok g X cc RX1 Ts rm ret nL) (F : FnN g X V k n) (hin : ∀ w ∈ wsX10, w ∈ Ts) {idx a : Nat} {fs : List Value} {v : Value} {ws' : va_W} (o : Nat) (he : ws[o]? = some (a, .inr (1, fs))) (k0 : Nat) (hk : k0 < 10) (hm : Cond.fieldLink RX1 idx (TX1 k0).1 (TX1 k0).2.1 (TX1 k0).2.2.1 ∈ Ts) (hf : (TX1 k0).2.2.2 = true) (hdc : (TX1 k0).1 = RX1) (hn : narrow (tyX1 k0) v = v) (hfit : fits (tyX1 k0) v = true) (hl0 : k0 < fs.length) (hw : ws.set o (a, .inr (1, fs.set k0 v)) = ws') (d : decode cc pc = .ok (.putfield idx, 3)) (kk : G g X q ws' (pc + 3) lv rest) : G g X q ws pc lv (v :: .ref a :: rest) := by
  obtain ⟨p, l, e, R, s, m, args, below, meth, c, A, n9, Q⟩ := X
  obtain ⟨hx, hb, hml, hown, hts, hE, hA, rfl, hr, hlk, rfl⟩ := C
  intro H locs ls hP hD hS hl
  subst hw
  exact va_putF (C := RX1) (T := TX1) (N := 10) (ref := (TX1 k0).1) hx hb hts hin tyX1 tyX1_ok nmX1 hown hE.1 hP hD hS o he rfl k0 hk (hts _ hm) (fun _ h => h) hf F.1 hdc (tyX1_ok k0 hk) hn hfit hl0 d (fun H locs hP hD hS => kk H locs ls hP hD hS hl)
/-- a call over the second part of the cells -/
theorem g_callB (C : Ok g X cc own Ts rm ret nL) {y : MethodName} {wsy ws9 : List Cond} {rmy : Room} {bytes : ByteArray} {maxL idx a ci n N : Nat} {rt : Option FieldType} {Cn : String} {T : u_T} {fs As st : List Value} {w1 w2 w2' : va_W} {r : Int32} (hM : Ctr g y wsy rmy (.ref a :: As) w2 (some (.int r)) w2' 0 0) (hG : GoodIn Ts (wsV own idx Cn y wsy)) (hwy : wsy = Cond.code y bytes maxL rt :: ws9) (hn : As.length = n) (he : w2[0]? = some (a, .inr (ci, fs))) (hc : vwCl[ci]? = some (Cn, T, N)) (hd : y.cls = Cn ∧ y.cls ≠ "java/lang/invoke/MethodHandle" ∧ y.cls ≠ "java/lang/invoke/VarHandle" ∧ (parseMethodDescriptor y.desc).map (fun d => d.parameters.length) = some n) (hR : rmy.cells = 0 ∧ rmy.slots = 0 ∧ rmy.frames + 1 ≤ rm.frames ∧ 8 + (maxL + 11) + rmy.locals ≤ rm.locals ∧ q.1 ≤ rm.cells ∧ q.2 ≤ rm.slots) (hst : st = As.reverse ++ .ref a :: rest) (hcat : (rest.map fun v => v.category).sum ≤ 8) (d : decode cc pc = .ok (.invokevirtual idx, 3)) (k : G g X q (w1 ++ w2') (pc + 3) lv (.int r :: rest)) : G g X q (w1 ++ w2) pc lv st := by
  obtain ⟨p, l, e, R, s, m, args, below, meth, c, A, n9, Q⟩ := X
  obtain ⟨hx, hb, hml, hown, hts, hE, hA, rfl, hr, hlk, rfl⟩ := C
  intro H locs ls hP hD hS hl
  have hP2 := vP_r hP
  have hD2 := vD_r hD
  have hF := va_A_in hD2 hS hA
  have hno : ∀ (j : Nat) (x : Nat × va_E), w1[j]? = some x → ¬ va_A w2 H.size x.1 := fun j x hj => vA_not (fun i z hi => vD_x hD j i x z hj hi) (vP_l hP j x hj).lt
  refine ctr_back (g := g) (r := some (.int r)) (v := w2') (A1 := va_A w2 H.size) (k := 0) (n := 0) (va_runV (As := As) (b := a) (rest := rest) (nL := n9) ⟨hx, hb, hml, hown, hts⟩ (hM l H.size) (cwV n hts hG hwy hR.1 hR.2.1 hd ⟨hR.2.2.1, hR.2.2.2.1⟩) ⟨ctr_blind g _ _ _, va_recv hE.1 hP2 hc he, fun U hU hW => ⟨rfl, by rw [hU], by rw [hU]; exact hP2, by rw [hU]; exact ((hE.kept hS.2.1).narrow hF).warm hW, hD2.weaken (fun _ _ _ _ => trivial)⟩⟩ rfl hn hl.1 hst (lv_room hcat) d ⟨hR.2.2.2.2.1, hR.2.2.2.2.2⟩) hS hF ?_
  intro H1 locs1 hP1 hD1 hz hk hS1
  refine k H1 locs1 ls (va_P.app ((vP_l hP).kept (fun j x hj => hk x.1 (vP_l hP j x hj).lt (hno j x hj))) hP1) (va_D.app (vD_l hD) (hD1.weaken (fun _ _ _ h => hF _ h)) (fun i j x z hi hj e => hno i x hi (by rw [e]; exact hD1.2 j z hj))) hS1 hl
/-- a call over the first part of the cells -/
theorem g_callA (C : Ok g X cc own Ts rm ret nL) {y : MethodName} {wsy ws9 : List Cond} {rmy : Room} {bytes : ByteArray} {maxL idx a ci n N : Nat} {rt : Option FieldType} {Cn : String} {T : u_T} {fs As st : List Value} {w1 w2 w1' : va_W} {r : Int32} (hM : Ctr g y wsy rmy (.ref a :: As) w1 (some (.int r)) w1' 0 0) (hG : GoodIn Ts (wsV own idx Cn y wsy)) (hwy : wsy = Cond.code y bytes maxL rt :: ws9) (hn : As.length = n) (he : w1[0]? = some (a, .inr (ci, fs))) (hc : vwCl[ci]? = some (Cn, T, N)) (hd : y.cls = Cn ∧ y.cls ≠ "java/lang/invoke/MethodHandle" ∧ y.cls ≠ "java/lang/invoke/VarHandle" ∧ (parseMethodDescriptor y.desc).map (fun d => d.parameters.length) = some n) (hR : rmy.cells = 0 ∧ rmy.slots = 0 ∧ rmy.frames + 1 ≤ rm.frames ∧ 8 + (maxL + 11) + rmy.locals ≤ rm.locals ∧ q.1 ≤ rm.cells ∧ q.2 ≤ rm.slots) (hst : st = As.reverse ++ .ref a :: rest) (hcat : (rest.map fun v => v.category).sum ≤ 8) (d : decode cc pc = .ok (.invokevirtual idx, 3)) (k : G g X q (w1' ++ w2) (pc + 3) lv (.int r :: rest)) : G g X q (w1 ++ w2) pc lv st := by
  obtain ⟨p, l, e, R, s, m, args, below, meth, c, A, n9, Q⟩ := X
  obtain ⟨hx, hb, hml, hown, hts, hE, hA, rfl, hr, hlk, rfl⟩ := C
  intro H locs ls hP hD hS hl
  have hP2 := vP_l hP
  have hD2 := vD_l hD
  have hF := va_A_in hD2 hS hA
  have hno : ∀ (j : Nat) (x : Nat × va_E), w2[j]? = some x → ¬ va_A w1 H.size x.1 := fun j x hj => vA_not (fun i z hi => (vD_x hD i j z x hi hj).symm) (vP_r hP j x hj).lt
  refine ctr_back (g := g) (r := some (.int r)) (v := w1') (A1 := va_A w1 H.size) (k := 0) (n := 0) (va_runV (As := As) (b := a) (rest := rest) (nL := n9) ⟨hx, hb, hml, hown, hts⟩ (hM l H.size) (cwV n hts hG hwy hR.1 hR.2.1 hd ⟨hR.2.2.1, hR.2.2.2.1⟩) ⟨ctr_blind g _ _ _, va_recv hE.1 hP2 hc he, fun U hU hW => ⟨rfl, by rw [hU], by rw [hU]; exact hP2, by rw [hU]; exact ((hE.kept hS.2.1).narrow hF).warm hW, hD2.weaken (fun _ _ _ _ => trivial)⟩⟩ rfl hn hl.1 hst (lv_room hcat) d ⟨hR.2.2.2.2.1, hR.2.2.2.2.2⟩) hS hF ?_
  intro H1 locs1 hP1 hD1 hz hk hS1
  refine k H1 locs1 ls (va_P.app hP1 ((vP_r hP).kept (fun j x hj => hk x.1 (vP_r hP j x hj).lt (hno j x hj)))) (va_D.app (hD1.weaken (fun _ _ _ h => hF _ h)) (vD_r hD) (fun i j x z hi hj e => hno j z hj (by rw [← e]; exact hD1.2 i x hi))) hS1 hl
/-- the behind of a constructor's call: the frame -/
theorem ctr_backN {p : Program} {l : Launch} {e : Env} {R : Room} {s : State} {m : MethodId} {args : Array Value} {below : List Frame} {meth : Method} {c : Code} {H : Heap} {locs : List Loc} {cells slots k n : Nat} {Q : State → Prop} {pc : Nat} {ls : Array Slot} {st0 rest : List Value} {A A1 : Nat → Prop} {H0 : Heap} {g : Gl} {V : (Nat → Nat) → va_W}
    (hr : va_Run p l e R s m args below meth c H locs cells slots k n (F0 m pc ls st0) rest (fun st oc t => (oc = .returned none ∧ ∃ ad : Nat → Nat, va_P (gD g) vwCl (V ad) t.heap ∧ va_D A1 (V ad)) ∧ va_F A1 st t) A1) (hS : va_S A H0 H locs) (hA : ∀ q, A1 q → A q)
    (kk : ∀ (ad : Nat → Nat) (H1 : Heap) (locs1 : List Loc), va_P (gD g) vwCl (V ad) H1 → va_D A1 (V ad) → H.size ≤ H1.size → (∀ q : Nat, q < H.size → ¬ A1 q → H1[q]? = H[q]?) → va_S A H0 H1 locs1 → W p l e R s m args below meth c H1 locs1 (cells + k) (slots + n) Q (F0 m (pc + 3) ls rest)) : W p l e R s m args below meth c H locs cells slots Q (F0 m pc ls st0) := by
  intro T hT X
  obtain ⟨w, st₀, t, T', L, h0, X', hL, e1, e2, ⟨⟨hv, ad, hp, hb⟩, hz, hk⟩, st⟩ := hr T hT X
  cases hv
  rw [h0] at hz hk
  obtain ⟨t2, a1, b1⟩ := kk ad T'.heap (locs ++ L) (by rw [e1]; exact hp) hb (by rw [e1]; exact hz) (fun q h1 h2 => by rw [e1]; exact hk q h1 h2)
    ⟨Nat.le_trans hS.1 (by rw [e1]; exact hz), fun q h1 h2 => by rw [e1, hk q (Nat.lt_of_lt_of_le h1 hS.1) (fun z => h2 (hA q z))]; exact hS.2.1 q h1 h2, fun q hq => by
      rcases List.mem_append.mp hq with h | h
      · exact hS.2.2 q h
      · exact hA _ (hL q h)⟩ T' rfl X'
  exact ⟨t2, st t2 a1, b1⟩
/-- new: an object more -/
theorem g_new (C : Ok g X cc own Ts rm ret nL) {Cn : String} {T : u_T} {N ci idx : Nat} (hin : ∀ w ∈ u_ws Cn T N, w ∈ Ts) (ty : Nat → FieldType) (hty : ∀ k, k < N → parseFieldDescriptor (T k).2.2.1 = some (ty k)) (hm1 : Cond.classLink own idx Cn ∈ Ts) (hm2 : Cond.instantiable Cn N ∈ Ts) (hm3 : Cond.initialized Cn ∈ Ts) (hc : vwCl[ci]? = some (Cn, T, N)) {fs : List Value} (hfs : ∀ j, j < N → defaultValue (ty j) = vp_V fs j) (hR : q.1 + 1 ≤ rm.cells ∧ q.2 + N ≤ rm.slots) (d : decode cc pc = .ok (.new idx, 3)) (k : ∀ a : Nat, G g X (q.1 + 1, q.2 + N) (ws ++ [(a, .inr (ci, fs))]) (pc + 3) lv (.ref a :: rest)) : G g X q ws pc lv rest := by
  obtain ⟨p, l, e, R, s, m, args, below, meth, c, A, n9, Q⟩ := X
  obtain ⟨hx, hb, hml, hown, hts, hE, hA, rfl, hr, hlk, rfl⟩ := C
  intro H locs ls hP hD hS hl
  exact va_new hx hb hts hin ty hty hown (hts _ hm1) (hts _ hm2) (hts _ hm3) hE.1 hP hD hS hA hc hfs hR.1 hR.2 d (fun a H1 hP hD hS => k a H1 locs ls hP hD hS hl)
/-- a constructor over the last part of the cells -/
theorem g_callI (C : Ok g X cc own Ts rm ret nL) {y : MethodName} {wsy ws9 : List Cond} {rmy : Room} {bytes : ByteArray} {maxL idx a n kc kn : Nat} {As st : List Value} {w1 w2 : va_W} {V : (Nat → Nat) → va_W} (hM : CtrN g y wsy rmy (.ref a :: As) w2 V kc kn) (hG : GoodIn Ts wsy) (hwy : wsy = Cond.code y bytes maxL none :: ws9) (hn : As.length = n) (hm1 : Cond.initialized y.cls ∈ Ts) (hm2 : Cond.methodLink own idx y ∈ Ts) (hm3 : Cond.instanceMethod y ∈ Ts) (hy : y.name = "<init>") (hd : y.cls ≠ "java/lang/invoke/MethodHandle" ∧ y.cls ≠ "java/lang/invoke/VarHandle" ∧ (parseMethodDescriptor y.desc).map (fun d => d.parameters.length) = some n) (hR : rmy.cells = kc ∧ rmy.slots = kn ∧ rmy.frames + 1 ≤ rm.frames ∧ 8 + (maxL + 11) + rmy.locals ≤ rm.locals ∧ q.1 + kc ≤ rm.cells ∧ q.2 + kn ≤ rm.slots) (hst : st = As.reverse ++ .ref a :: rest) (hcat : (rest.map fun v => v.category).sum ≤ 8) (d : decode cc pc = .ok (.invokespecial idx, 3)) (k : ∀ ad : Nat → Nat, G g X (q.1 + kc, q.2 + kn) (w1 ++ V ad) (pc + 3) lv rest) : G g X q (w1 ++ w2) pc lv st := by
  obtain ⟨p, l, e, R, s, m, args, below, meth, c, A, n9, Q⟩ := X
  obtain ⟨hx, hb, hml, hown, hts, hE, hA, rfl, hr, hlk, rfl⟩ := C
  intro H locs ls hP hD hS hl
  have hP2 := vP_r hP
  have hD2 := vD_r hD
  have hF := va_A_in hD2 hS hA
  have hno : ∀ (j : Nat) (x : Nat × va_E), w1[j]? = some x → ¬ va_A w2 H.size x.1 := fun j x hj => vA_not (fun i z hi => vD_x hD j i x z hj hi) (vP_l hP j x hj).lt
  refine ctr_backN (g := g) (V := V) (A1 := va_A w2 H.size) (k := kc) (n := kn) (va_runI (As := As) (b := a) (rest := rest) (nL := n9) ⟨hx, hb, hml, hown, hts⟩ (hM l H.size) (cwI n hts hG hwy hR.1 hR.2.1 (hts _ hm1) (hts _ hm2) (hts _ hm3) hy hd ⟨hR.2.2.1, hR.2.2.2.1⟩) ⟨ctr_blind g _ _ _, fun U hU hW => ⟨rfl, by rw [hU], by rw [hU]; exact hP2, by rw [hU]; exact ((hE.kept hS.2.1).narrow hF).warm hW, hD2.weaken (fun _ _ _ _ => trivial)⟩⟩ rfl hn hl.1 hst (lv_room hcat) d ⟨hR.2.2.2.2.1, hR.2.2.2.2.2⟩) hS hF ?_
  intro ad H1 locs1 hP1 hD1 hz hk hS1
  refine k ad H1 locs1 ls (va_P.app ((vP_l hP).kept (fun j x hj => hk x.1 (vP_l hP j x hj).lt (hno j x hj))) hP1) (va_D.app (vD_l hD) (hD1.weaken (fun _ _ _ h => hF _ h)) (fun i j x z hi hj e => hno i x hi (by rw [e]; exact hD1.2 j z hj))) hS1 hl
/-- the script -/
def Scr (X : Cx) (b L : Nat) (xs : Nat → Int32) : Prop :=
  match X with
  | (_, _, _, _, s, _, _, _, _, _, A, _, _) => va_X b L xs s s.heap ∧ b < s.heap.size ∧ ¬ A b
theorem g_sld (C : Ok g X cc own Ts rm ret nL) {b L : Nat} {xs : Nat → Int32} (S : Scr X b L xs) {i v : Int32} (hi : vp_in i L) (hv : xs i.toNatClampNeg = v) (d : decode cc pc = .ok (.iaload, 1)) (k : G g X q ws (pc + 1) lv (.int v :: rest)) : G g X q ws pc lv (.int i :: .ref b :: rest) := by
  subst hv
  obtain ⟨p, l, e, R, s, m, args, below, meth, c, A, n9, Q⟩ := X
  obtain ⟨hx, hb, hml, hown, hts, hE, hA, rfl, hr, hlk, rfl⟩ := C
  intro H locs ls hP hD hS hl
  exact va_sld hx hb S.1 S.2.1 S.2.2 hS hi d (k H locs ls hP hD hS hl)
theorem g_slen (C : Ok g X cc own Ts rm ret nL) {b L : Nat} {xs : Nat → Int32} (S : Scr X b L xs) (d : decode cc pc = .ok (.arraylength, 1)) (k : G g X q ws (pc + 1) lv (.int (nI L) :: rest)) : G g X q ws pc lv (.ref b :: rest) := by
  obtain ⟨p, l, e, R, s, m, args, below, meth, c, A, n9, Q⟩ := X
  obtain ⟨hx, hb, hml, hown, hts, hE, hA, rfl, hr, hlk, rfl⟩ := C
  intro H locs ls hP hD hS hl
  exact va_slen hx hb S.1 S.2.1 S.2.2 hS d (k H locs ls hP hD hS hl)
end GN
