/-! the walk in short: what is fixed in a walk is one tuple X; G X q ws pc lv st: from every heap that holds the cells ws, with locals lv and operand stack st, the machine at pc comes to the end -/
abbrev Gl : Type := va_G × ClassId × ClassId × Nat × (Nat → Nat) × (Nat → Nat)
abbrev gD (g : Gl) : va_G := g.1
abbrev gB (g : Gl) : ClassId := g.2.1
abbrev gI (g : Gl) : ClassId := g.2.2.1
abbrev gW (g : Gl) : Nat := g.2.2.2.1
abbrev gK (g : Gl) : Nat → Nat := g.2.2.2.2.1
abbrev gV (g : Gl) : Nat → Nat := g.2.2.2.2.2
abbrev gT (g : Gl) : List (ClassId × FieldType) := [(gB g, .byte), (gI g, .int)]
def wWd : List Nat := [105, 110, 116, 32, 118, 111, 105, 100, 32, 115, 116, 97, 116, 105, 99, 32, 101, 120, 116, 101, 114, 110, 32, 105, 102, 32, 101, 108, 115, 101, 32, 119, 104, 105, 108, 101, 32, 100, 111, 32, 102, 111, 114, 32, 98, 114, 101, 97, 107, 32, 99, 111, 110, 116, 105, 110, 117, 101, 32, 114, 101, 116, 117, 114, 110, 32]
def kByt : List (List Int32) := [[32, 40, 32, 41, 32, 123, 32, 125, 32, 91, 32, 93, 32, 44, 32, 59, 32, 63, 32, 58, 32, 61, 32, 43, 61, 32, 45, 61, 32, 42, 61, 32, 47, 61, 32, 37, 61, 32, 38, 61, 32, 124, 61, 32, 94, 61, 32, 60, 60, 61, 32, 62, 62, 61, 32, 124, 124, 32, 38, 38, 32, 124, 32, 94, 32, 38, 32, 61, 61, 32, 33, 61, 32, 60, 32, 62, 32, 60, 61, 32, 62, 61, 32, 60, 60, 32, 62, 62, 32, 43, 32, 45, 32, 42, 32, 47, 32, 37, 32, 33, 32, 126, 32, 43, 43, 32, 45, 45, 32], [32, 105, 110, 116, 32, 118, 111, 105, 100, 32, 115, 116, 97, 116, 105, 99, 32, 101, 120, 116, 101, 114, 110, 32, 105, 102, 32, 101, 108, 115, 101, 32, 119, 104, 105, 108, 101, 32, 100, 111, 32, 102, 111, 114, 32, 98, 114, 101, 97, 107, 32, 99, 111, 110, 116, 105, 110, 117, 101, 32, 114, 101, 116, 117, 114, 110, 32]]
def kLen : List Nat := [109, 67]
def kS0 : String := " ( ) { } [ ] , ; ? : = += -= *= /= %= &= |= ^= <<= >>= || && | ^ & == != < > <= >= << >> + - * / % ! ~ ++ -- "
def kS1 : String := " int void static ext" ++ "ern if else while do for break continue return "
/-- what nobody writes: the static table of words, the two texts of the reference, a static of String -/
def Stt (g : Gl) (A : Nat → Prop) (U : State) (H : Heap) : Prop :=
  va_Z "TokenRows" "WORDS" "[C" (.ref (gW g)) A U H ∧ va_T .char (gW g) 66 (fun j => .int (nI (wWd.getD j 0))) A U H ∧ vk_S 2 kLen kByt (gK g) (gV g) A U H ∧ vk_R "TokenRowsModel" 102 kS0 (gK g 0) U ∧ vk_R "TokenRowsModel" 115 kS1 (gK g 1) U ∧ va_Z "java/lang/String" "COMPACT_STRINGS" "Z" (.int 1) A U H ∧ va_Zq "jdk/internal/util/Preconditions" "SIOOBE_FORMATTER" "Ljava/util/function/BiFunction;" A U H
theorem Stt.warm {g : Gl} {A : Nat → Prop} {u U : State} {H : Heap} (hW : u.WarmedH U.vm) (h : Stt g A u H) : Stt g A U H := by
  obtain ⟨h1, h2, h3, h4, h5, h6, h7⟩ := h
  exact ⟨h1.moved hW.alike, h2.moved hW.alike, h3.moved hW.alike, h4.warm hW, h5.warm hW, h6.moved hW.alike, h7.moved hW.alike⟩
theorem Stt.same {g : Gl} {A : Nat → Prop} {u U : State} {H : Heap} (hv : U.vm = u.vm) (h : Stt g A u H) : Stt g A U H := by
  obtain ⟨h1, h2, h3, h4, h5, h6, h7⟩ := h
  have ha : u.vm.Alike U.vm := by rw [hv]; exact Vm.Alike.refl _
  exact ⟨h1.moved ha, h2.moved ha, h3.moved ha, h4.same hv, h5.same hv, h6.moved ha, h7.moved ha⟩
theorem Stt.kept {g : Gl} {A : Nat → Prop} {U : State} {H H1 : Heap} (h : Stt g A U H) (hq : ∀ a : Nat, a < H.size → ¬ A a → H1[a]? = H[a]?) : Stt g A U H1 := by
  obtain ⟨h1, h2, h3, h4, h5, h6, h7⟩ := h
  exact ⟨h1.kept hq, h2.kept hq, h3.kept hq, h4, h5, h6.kept hq, h7.kept hq⟩
theorem Stt.narrow {g : Gl} {A B : Nat → Prop} {U : State} {H : Heap} (h : Stt g A U H) (hAB : ∀ q, B q → A q) : Stt g B U H := by
  obtain ⟨h1, h2, h3, h4, h5, h6, h7⟩ := h
  exact ⟨h1.narrow hAB, h2.narrow hAB, h3.narrow hAB, h4, h5, h6.narrow hAB, h7.narrow hAB⟩
/-- what a method may take as given of the state, its own cells apart -/
def Env0 (g : Gl) (A : Nat → Prop) (U : State) (H : Heap) : Prop := va_K (gD g) vwCl (gT g) U ∧ Stt g A U H
theorem Env0.warm {g : Gl} {A : Nat → Prop} {u U : State} {H : Heap} (hW : u.WarmedH U.vm) (h : Env0 g A u H) : Env0 g A U H := ⟨va_K.moved hW.alike h.1, h.2.warm hW⟩
theorem Env0.same {g : Gl} {A : Nat → Prop} {u U : State} {H : Heap} (hv : U.vm = u.vm) (h : Env0 g A u H) : Env0 g A U H := ⟨va_K.moved (by rw [hv]; exact Vm.Alike.refl _) h.1, h.2.same hv⟩
theorem Env0.kept {g : Gl} {A : Nat → Prop} {U : State} {H H1 : Heap} (h : Env0 g A U H) (hq : ∀ a : Nat, a < H.size → ¬ A a → H1[a]? = H[a]?) : Env0 g A U H1 := ⟨h.1, h.2.kept hq⟩
theorem Env0.narrow {g : Gl} {A B : Nat → Prop} {U : State} {H : Heap} (h : Env0 g A U H) (hAB : ∀ q, B q → A q) : Env0 g B U H := ⟨h.1, h.2.narrow hAB⟩
/-- a contract: from the cells w, with arguments As, the method y returns r and leaves the cells v; k cells of n slots are new -/
def Ctr (g : Gl) (y : MethodName) (ws : List Cond) (rm : Room) (As : List Value) (w : va_W) (r : Option Value) (v : va_W) (k n : Nat) : Prop :=
  ∀ (l : Launch) (sz : Nat), Met l y ws rm (va_Pc As (fun U => U.heap.size = sz ∧ va_P (gD g) vwCl w U.heap ∧ Env0 g (va_A w sz) U U.heap ∧ va_D (fun _ => True) w)) (fun _ st oc t => (oc = .returned r ∧ va_P (gD g) vwCl v t.heap ∧ va_D (va_A w sz) v) ∧ va_F (va_A w sz) st t) k n (va_A w sz)
abbrev Cx : Type := Program × Launch × Env × Room × State × MethodId × Array Value × List Frame × Method × Code × (Nat → Prop) × Nat × (State → Prop)
def G (g : Gl) (X : Cx) (q : Nat × Nat) (ws : va_W) (pc : Nat) (lv : List (Nat × Value)) (st : List Value) : Prop :=
  match X with
  | (p, l, e, R, s, m, args, below, meth, c, A, nL, Q) => ∀ (H : Heap) (locs : List Loc) (ls : Array Slot), va_P (gD g) vwCl ws H → va_D A ws → va_S A s.heap H locs → lv_has ls nL lv → W p l e R s m args below meth c H locs q.1 q.2 Q (F0 m pc ls st)
def Ok (g : Gl) (X : Cx) (cc : ByteArray) (own : String) (Ts : List Cond) (rm : Room) (ret : Option FieldType) (nL' : Nat) : Prop :=
  match X with
  | (p, _, _, R, s, m, args, _, meth, c, A, nL, _) => p.tables.exec = Jvm.exec ∧ c.code = cc ∧ c.maxLocals = nL ∧ s.vm.findClass own = some m.cls ∧ (∀ w ∈ Ts, w.before args s = true) ∧ Env0 g A s s.heap ∧ (∀ q : Nat, s.heap.size ≤ q → A q) ∧ R = rm ∧ meth.sig.returnType = ret ∧ meth.locks = false ∧ nL = nL'

section GR
variable {g : Gl} {X : Cx} {cc : ByteArray} {own : String} {Ts : List Cond} {rm : Room} {ret : Option FieldType} {nL : Nat} {q : Nat × Nat} {ws : va_W} {pc : Nat} {lv : List (Nat × Value)} {rest : List Value}
theorem g_iconst (C : Ok g X cc own Ts rm ret nL) {n : Int} {v : Int32} (d : decode cc pc = .ok (.iconst n, 1)) (hv : Int32.ofInt n = v) (k : G g X q ws (pc + 1) lv (.int v :: rest)) : G g X q ws pc lv rest := by
  obtain ⟨p, l, e, R, s, m, args, below, meth, c, A, n9, Q⟩ := X
  obtain ⟨hx, hb, hml, hown, hts, hE, hA, rfl, hr, hlk, rfl⟩ := C
  intro H locs ls hP hD hS hl
  exact lv_iconst hx hb d hv (k H locs ls hP hD hS hl)
theorem g_bipush (C : Ok g X cc own Ts rm ret nL) {n : Int} {v : Int32} (d : decode cc pc = .ok (.bipush n, 2)) (hv : (Int8.ofInt n).toInt32 = v) (k : G g X q ws (pc + 2) lv (.int v :: rest)) : G g X q ws pc lv rest := by
  obtain ⟨p, l, e, R, s, m, args, below, meth, c, A, n9, Q⟩ := X
  obtain ⟨hx, hb, hml, hown, hts, hE, hA, rfl, hr, hlk, rfl⟩ := C
  intro H locs ls hP hD hS hl
  exact lv_bipush hx hb d hv (k H locs ls hP hD hS hl)
theorem g_sipush (C : Ok g X cc own Ts rm ret nL) {n : Int} {v : Int32} (d : decode cc pc = .ok (.sipush n, 3)) (hv : (Int16.ofInt n).toInt32 = v) (k : G g X q ws (pc + 3) lv (.int v :: rest)) : G g X q ws pc lv rest := by
  obtain ⟨p, l, e, R, s, m, args, below, meth, c, A, n9, Q⟩ := X
  obtain ⟨hx, hb, hml, hown, hts, hE, hA, rfl, hr, hlk, rfl⟩ := C
  intro H locs ls hP hD hS hl
  exact lv_sipush hx hb d hv (k H locs ls hP hD hS hl)
theorem g_lconst (C : Ok g X cc own Ts rm ret nL) {n : Fin 2} {v : Int64} (d : decode cc pc = .ok (.lconst n, 1)) (hv : Int64.ofNat (n : Nat) = v) (k : G g X q ws (pc + 1) lv (.long v :: rest)) : G g X q ws pc lv rest := by
  obtain ⟨p, l, e, R, s, m, args, below, meth, c, A, n9, Q⟩ := X
  obtain ⟨hx, hb, hml, hown, hts, hE, hA, rfl, hr, hlk, rfl⟩ := C
  intro H locs ls hP hD hS hl
  exact lv_lconst hx hb d hv (k H locs ls hP hD hS hl)
theorem g_ldc (C : Ok g X cc own Ts rm ret nL) {idx : Nat} {v : Int32} (d : decode cc pc = .ok (.ldc idx, 2)) (hm : Cond.constant own idx v ∈ Ts) (k : G g X q ws (pc + 2) lv (.int v :: rest)) : G g X q ws pc lv rest := by
  obtain ⟨p, l, e, R, s, m, args, below, meth, c, A, n9, Q⟩ := X
  obtain ⟨hx, hb, hml, hown, hts, hE, hA, rfl, hr, hlk, rfl⟩ := C
  intro H locs ls hP hD hS hl
  exact lv_ldc hx hb hown (hts _ hm) d (k H locs ls hP hD hS hl)
theorem g_ldc2 (C : Ok g X cc own Ts rm ret nL) {idx : Nat} {v : Int64} (d : decode cc pc = .ok (.ldc2_w idx, 3)) (hm : Cond.constantLong own idx v ∈ Ts) (k : G g X q ws (pc + 3) lv (.long v :: rest)) : G g X q ws pc lv rest := by
  obtain ⟨p, l, e, R, s, m, args, below, meth, c, A, n9, Q⟩ := X
  obtain ⟨hx, hb, hml, hown, hts, hE, hA, rfl, hr, hlk, rfl⟩ := C
  intro H locs ls hP hD hS hl
  exact lv_ldc2 hx hb hown (hts _ hm) d (k H locs ls hP hD hS hl)
theorem g_iload_n (C : Ok g X cc own Ts rm ret nL) {j : Fin 4} {x : Int32} (d : decode cc pc = .ok (.iload_n j, 1)) (o : Nat) (hl0 : lv[o]? = some ((j : Nat), .int x)) (k : G g X q ws (pc + 1) lv (.int x :: rest)) : G g X q ws pc lv rest := by
  obtain ⟨p, l, e, R, s, m, args, below, meth, c, A, n9, Q⟩ := X
  obtain ⟨hx, hb, hml, hown, hts, hE, hA, rfl, hr, hlk, rfl⟩ := C
  intro H locs ls hP hD hS hl
  exact lv_iload_n hx hb d rfl (lv_at hl o hl0) (k H locs ls hP hD hS hl)
theorem g_iload (C : Ok g X cc own Ts rm ret nL) {j : Nat} {x : Int32} (d : decode cc pc = .ok (.iload j, 2)) (o : Nat) (hl0 : lv[o]? = some (j, .int x)) (k : G g X q ws (pc + 2) lv (.int x :: rest)) : G g X q ws pc lv rest := by
  obtain ⟨p, l, e, R, s, m, args, below, meth, c, A, n9, Q⟩ := X
  obtain ⟨hx, hb, hml, hown, hts, hE, hA, rfl, hr, hlk, rfl⟩ := C
  intro H locs ls hP hD hS hl
  exact lv_iload hx hb d (lv_at hl o hl0) (k H locs ls hP hD hS hl)
theorem g_lload_n (C : Ok g X cc own Ts rm ret nL) {j : Fin 4} {x : Int64} (d : decode cc pc = .ok (.lload_n j, 1)) (o : Nat) (hl0 : lv[o]? = some ((j : Nat), .long x)) (k : G g X q ws (pc + 1) lv (.long x :: rest)) : G g X q ws pc lv rest := by
  obtain ⟨p, l, e, R, s, m, args, below, meth, c, A, n9, Q⟩ := X
  obtain ⟨hx, hb, hml, hown, hts, hE, hA, rfl, hr, hlk, rfl⟩ := C
  intro H locs ls hP hD hS hl
  exact lv_lload_n hx hb d rfl (lv_at hl o hl0) (k H locs ls hP hD hS hl)
theorem g_lload (C : Ok g X cc own Ts rm ret nL) {j : Nat} {x : Int64} (d : decode cc pc = .ok (.lload j, 2)) (o : Nat) (hl0 : lv[o]? = some (j, .long x)) (k : G g X q ws (pc + 2) lv (.long x :: rest)) : G g X q ws pc lv rest := by
  obtain ⟨p, l, e, R, s, m, args, below, meth, c, A, n9, Q⟩ := X
  obtain ⟨hx, hb, hml, hown, hts, hE, hA, rfl, hr, hlk, rfl⟩ := C
  intro H locs ls hP hD hS hl
  exact lv_lload hx hb d (lv_at hl o hl0) (k H locs ls hP hD hS hl)
theorem g_aload_n (C : Ok g X cc own Ts rm ret nL) {j : Fin 4} {x : Nat} (d : decode cc pc = .ok (.aload_n j, 1)) (o : Nat) (hl0 : lv[o]? = some ((j : Nat), .ref x)) (k : G g X q ws (pc + 1) lv (.ref x :: rest)) : G g X q ws pc lv rest := by
  obtain ⟨p, l, e, R, s, m, args, below, meth, c, A, n9, Q⟩ := X
  obtain ⟨hx, hb, hml, hown, hts, hE, hA, rfl, hr, hlk, rfl⟩ := C
  intro H locs ls hP hD hS hl
  exact lv_aload_n hx hb d rfl (lv_at hl o hl0) (k H locs ls hP hD hS hl)
theorem g_aload (C : Ok g X cc own Ts rm ret nL) {j : Nat} {x : Nat} (d : decode cc pc = .ok (.aload j, 2)) (o : Nat) (hl0 : lv[o]? = some (j, .ref x)) (k : G g X q ws (pc + 2) lv (.ref x :: rest)) : G g X q ws pc lv rest := by
  obtain ⟨p, l, e, R, s, m, args, below, meth, c, A, n9, Q⟩ := X
  obtain ⟨hx, hb, hml, hown, hts, hE, hA, rfl, hr, hlk, rfl⟩ := C
  intro H locs ls hP hD hS hl
  exact lv_aload hx hb d (lv_at hl o hl0) (k H locs ls hP hD hS hl)
theorem g_istore_n (C : Ok g X cc own Ts rm ret nL) {j : Fin 4} {x : Int32} {lv' : List (Nat × Value)} (d : decode cc pc = .ok (.istore_n j, 1)) (hn : (j : Nat) < nL) (hlv : ((j : Nat), Value.int x) :: lv.filter (fun q => !(q.1 == (j : Nat)) && !(q.1 + 1 == (j : Nat) && q.2.category == 2)) = lv') (k : G g X q ws (pc + 1) lv' rest) : G g X q ws pc lv (.int x :: rest) := by
  obtain ⟨p, l, e, R, s, m, args, below, meth, c, A, n9, Q⟩ := X
  obtain ⟨hx, hb, hml, hown, hts, hE, hA, rfl, hr, hlk, rfl⟩ := C
  intro H locs ls hP hD hS hl
  exact lv_istore_n hx hb d rfl hl hn hlv (fun ls hl => k H locs ls hP hD hS hl)
theorem g_istore (C : Ok g X cc own Ts rm ret nL) {j : Nat} {x : Int32} {lv' : List (Nat × Value)} (d : decode cc pc = .ok (.istore j, 2)) (hn : j < nL) (hlv : (j, Value.int x) :: lv.filter (fun q => !(q.1 == j) && !(q.1 + 1 == j && q.2.category == 2)) = lv') (k : G g X q ws (pc + 2) lv' rest) : G g X q ws pc lv (.int x :: rest) := by
  obtain ⟨p, l, e, R, s, m, args, below, meth, c, A, n9, Q⟩ := X
  obtain ⟨hx, hb, hml, hown, hts, hE, hA, rfl, hr, hlk, rfl⟩ := C
  intro H locs ls hP hD hS hl
  exact lv_istore hx hb d hl hn hlv (fun ls hl => k H locs ls hP hD hS hl)
theorem g_astore_n (C : Ok g X cc own Ts rm ret nL) {j : Fin 4} {x : Nat} {lv' : List (Nat × Value)} (d : decode cc pc = .ok (.astore_n j, 1)) (hn : (j : Nat) < nL) (hlv : ((j : Nat), Value.ref x) :: lv.filter (fun q => !(q.1 == (j : Nat)) && !(q.1 + 1 == (j : Nat) && q.2.category == 2)) = lv') (k : G g X q ws (pc + 1) lv' rest) : G g X q ws pc lv (.ref x :: rest) := by
  obtain ⟨p, l, e, R, s, m, args, below, meth, c, A, n9, Q⟩ := X
  obtain ⟨hx, hb, hml, hown, hts, hE, hA, rfl, hr, hlk, rfl⟩ := C
  intro H locs ls hP hD hS hl
  exact lv_astore_n hx hb d rfl hl hn hlv (fun ls hl => k H locs ls hP hD hS hl)
theorem g_astore (C : Ok g X cc own Ts rm ret nL) {j : Nat} {x : Nat} {lv' : List (Nat × Value)} (d : decode cc pc = .ok (.astore j, 2)) (hn : j < nL) (hlv : (j, Value.ref x) :: lv.filter (fun q => !(q.1 == j) && !(q.1 + 1 == j && q.2.category == 2)) = lv') (k : G g X q ws (pc + 2) lv' rest) : G g X q ws pc lv (.ref x :: rest) := by
  obtain ⟨p, l, e, R, s, m, args, below, meth, c, A, n9, Q⟩ := X
  obtain ⟨hx, hb, hml, hown, hts, hE, hA, rfl, hr, hlk, rfl⟩ := C
  intro H locs ls hP hD hS hl
  exact lv_astore hx hb d hl hn hlv (fun ls hl => k H locs ls hP hD hS hl)
theorem g_lstore_n (C : Ok g X cc own Ts rm ret nL) {j : Fin 4} {x : Int64} {lv' : List (Nat × Value)} (d : decode cc pc = .ok (.lstore_n j, 1)) (hn : (j : Nat) + 1 < nL) (hlv : ((j : Nat), Value.long x) :: lv.filter (fun q => !(q.1 == (j : Nat)) && (!(q.1 == (j : Nat) + 1) && !(q.1 + 1 == (j : Nat) && q.2.category == 2))) = lv') (k : G g X q ws (pc + 1) lv' rest) : G g X q ws pc lv (.long x :: rest) := by
  obtain ⟨p, l, e, R, s, m, args, below, meth, c, A, n9, Q⟩ := X
  obtain ⟨hx, hb, hml, hown, hts, hE, hA, rfl, hr, hlk, rfl⟩ := C
  intro H locs ls hP hD hS hl
  exact lv_lstore_n hx hb d rfl hl hn hlv (fun ls hl => k H locs ls hP hD hS hl)
theorem g_lstore (C : Ok g X cc own Ts rm ret nL) {j : Nat} {x : Int64} {lv' : List (Nat × Value)} (d : decode cc pc = .ok (.lstore j, 2)) (hn : j + 1 < nL) (hlv : (j, Value.long x) :: lv.filter (fun q => !(q.1 == j) && (!(q.1 == j + 1) && !(q.1 + 1 == j && q.2.category == 2))) = lv') (k : G g X q ws (pc + 2) lv' rest) : G g X q ws pc lv (.long x :: rest) := by
  obtain ⟨p, l, e, R, s, m, args, below, meth, c, A, n9, Q⟩ := X
  obtain ⟨hx, hb, hml, hown, hts, hE, hA, rfl, hr, hlk, rfl⟩ := C
  intro H locs ls hP hD hS hl
  exact lv_lstore hx hb d hl hn hlv (fun ls hl => k H locs ls hP hD hS hl)
theorem g_iinc (C : Ok g X cc own Ts rm ret nL) {j o : Nat} {n : Int} {x v : Int32} {lv' : List (Nat × Value)} (d : decode cc pc = .ok (.iinc j n, 3)) (hk : lv[o]? = some (j, .int x)) (hv : x + Int32.ofInt n = v) (hn : j < nL) (hlv : (j, Value.int v) :: lv.filter (fun q => !(q.1 == j) && !(q.1 + 1 == j && q.2.category == 2)) = lv') (k : G g X q ws (pc + 3) lv' rest) : G g X q ws pc lv rest := by
  obtain ⟨p, l, e, R, s, m, args, below, meth, c, A, n9, Q⟩ := X
  obtain ⟨hx, hb, hml, hown, hts, hE, hA, rfl, hr, hlk, rfl⟩ := C
  intro H locs ls hP hD hS hl
  exact lv_iinc hx hb d hl hk hv hn hlv (fun ls hl => k H locs ls hP hD hS hl)
theorem g_iadd (C : Ok g X cc own Ts rm ret nL) {x y : Int32} (d : decode cc pc = .ok (.iadd, 1)) (k : G g X q ws (pc + 1) lv (.int (x + y) :: rest)) : G g X q ws pc lv (.int y :: .int x :: rest) := by
  obtain ⟨p, l, e, R, s, m, args, below, meth, c, A, n9, Q⟩ := X
  obtain ⟨hx, hb, hml, hown, hts, hE, hA, rfl, hr, hlk, rfl⟩ := C
  intro H locs ls hP hD hS hl
  exact lv_iadd hx hb d (k H locs ls hP hD hS hl)
theorem g_isub (C : Ok g X cc own Ts rm ret nL) {x y : Int32} (d : decode cc pc = .ok (.isub, 1)) (k : G g X q ws (pc + 1) lv (.int (x - y) :: rest)) : G g X q ws pc lv (.int y :: .int x :: rest) := by
  obtain ⟨p, l, e, R, s, m, args, below, meth, c, A, n9, Q⟩ := X
  obtain ⟨hx, hb, hml, hown, hts, hE, hA, rfl, hr, hlk, rfl⟩ := C
  intro H locs ls hP hD hS hl
  exact lv_isub hx hb d (k H locs ls hP hD hS hl)
theorem g_imul (C : Ok g X cc own Ts rm ret nL) {x y : Int32} (d : decode cc pc = .ok (.imul, 1)) (k : G g X q ws (pc + 1) lv (.int (x * y) :: rest)) : G g X q ws pc lv (.int y :: .int x :: rest) := by
  obtain ⟨p, l, e, R, s, m, args, below, meth, c, A, n9, Q⟩ := X
  obtain ⟨hx, hb, hml, hown, hts, hE, hA, rfl, hr, hlk, rfl⟩ := C
  intro H locs ls hP hD hS hl
  exact lv_imul hx hb d (k H locs ls hP hD hS hl)
theorem g_iand (C : Ok g X cc own Ts rm ret nL) {x y : Int32} (d : decode cc pc = .ok (.iand, 1)) (k : G g X q ws (pc + 1) lv (.int (x &&& y) :: rest)) : G g X q ws pc lv (.int y :: .int x :: rest) := by
  obtain ⟨p, l, e, R, s, m, args, below, meth, c, A, n9, Q⟩ := X
  obtain ⟨hx, hb, hml, hown, hts, hE, hA, rfl, hr, hlk, rfl⟩ := C
  intro H locs ls hP hD hS hl
  exact lv_iand hx hb d (k H locs ls hP hD hS hl)
theorem g_ior (C : Ok g X cc own Ts rm ret nL) {x y : Int32} (d : decode cc pc = .ok (.ior, 1)) (k : G g X q ws (pc + 1) lv (.int (x ||| y) :: rest)) : G g X q ws pc lv (.int y :: .int x :: rest) := by
  obtain ⟨p, l, e, R, s, m, args, below, meth, c, A, n9, Q⟩ := X
  obtain ⟨hx, hb, hml, hown, hts, hE, hA, rfl, hr, hlk, rfl⟩ := C
  intro H locs ls hP hD hS hl
  exact lv_ior hx hb d (k H locs ls hP hD hS hl)
theorem g_ladd (C : Ok g X cc own Ts rm ret nL) {x y : Int64} (d : decode cc pc = .ok (.ladd, 1)) (k : G g X q ws (pc + 1) lv (.long (x + y) :: rest)) : G g X q ws pc lv (.long y :: .long x :: rest) := by
  obtain ⟨p, l, e, R, s, m, args, below, meth, c, A, n9, Q⟩ := X
  obtain ⟨hx, hb, hml, hown, hts, hE, hA, rfl, hr, hlk, rfl⟩ := C
  intro H locs ls hP hD hS hl
  exact lv_ladd hx hb d (k H locs ls hP hD hS hl)
theorem g_lsub (C : Ok g X cc own Ts rm ret nL) {x y : Int64} (d : decode cc pc = .ok (.lsub, 1)) (k : G g X q ws (pc + 1) lv (.long (x - y) :: rest)) : G g X q ws pc lv (.long y :: .long x :: rest) := by
  obtain ⟨p, l, e, R, s, m, args, below, meth, c, A, n9, Q⟩ := X
  obtain ⟨hx, hb, hml, hown, hts, hE, hA, rfl, hr, hlk, rfl⟩ := C
  intro H locs ls hP hD hS hl
  exact lv_lsub hx hb d (k H locs ls hP hD hS hl)
theorem g_lmul (C : Ok g X cc own Ts rm ret nL) {x y : Int64} (d : decode cc pc = .ok (.lmul, 1)) (k : G g X q ws (pc + 1) lv (.long (x * y) :: rest)) : G g X q ws pc lv (.long y :: .long x :: rest) := by
  obtain ⟨p, l, e, R, s, m, args, below, meth, c, A, n9, Q⟩ := X
  obtain ⟨hx, hb, hml, hown, hts, hE, hA, rfl, hr, hlk, rfl⟩ := C
  intro H locs ls hP hD hS hl
  exact lv_lmul hx hb d (k H locs ls hP hD hS hl)
theorem g_ishl (C : Ok g X cc own Ts rm ret nL) {x y : Int32} (d : decode cc pc = .ok (.ishl, 1)) (k : G g X q ws (pc + 1) lv (.int (x <<< (y &&& 31)) :: rest)) : G g X q ws pc lv (.int y :: .int x :: rest) := by
  obtain ⟨p, l, e, R, s, m, args, below, meth, c, A, n9, Q⟩ := X
  obtain ⟨hx, hb, hml, hown, hts, hE, hA, rfl, hr, hlk, rfl⟩ := C
  intro H locs ls hP hD hS hl
  exact lv_ishl hx hb d (k H locs ls hP hD hS hl)
theorem g_ishr (C : Ok g X cc own Ts rm ret nL) {x y : Int32} (d : decode cc pc = .ok (.ishr, 1)) (k : G g X q ws (pc + 1) lv (.int (x >>> (y &&& 31)) :: rest)) : G g X q ws pc lv (.int y :: .int x :: rest) := by
  obtain ⟨p, l, e, R, s, m, args, below, meth, c, A, n9, Q⟩ := X
  obtain ⟨hx, hb, hml, hown, hts, hE, hA, rfl, hr, hlk, rfl⟩ := C
  intro H locs ls hP hD hS hl
  exact lv_ishr hx hb d (k H locs ls hP hD hS hl)
theorem g_iushr (C : Ok g X cc own Ts rm ret nL) {x y v : Int32} (d : decode cc pc = .ok (.iushr, 1)) (hv : (x.toUInt32 >>> (y.toUInt32 &&& Int32.toUInt32 31)).toInt32 = v) (k : G g X q ws (pc + 1) lv (.int v :: rest)) : G g X q ws pc lv (.int y :: .int x :: rest) := by
  obtain ⟨p, l, e, R, s, m, args, below, meth, c, A, n9, Q⟩ := X
  obtain ⟨hx, hb, hml, hown, hts, hE, hA, rfl, hr, hlk, rfl⟩ := C
  intro H locs ls hP hD hS hl
  exact lv_iushr hx hb d hv (k H locs ls hP hD hS hl)
theorem g_i2b (C : Ok g X cc own Ts rm ret nL) {x v : Int32} (d : decode cc pc = .ok (.i2b, 1)) (hv : x.toInt8.toInt32 = v) (k : G g X q ws (pc + 1) lv (.int v :: rest)) : G g X q ws pc lv (.int x :: rest) := by
  obtain ⟨p, l, e, R, s, m, args, below, meth, c, A, n9, Q⟩ := X
  obtain ⟨hx, hb, hml, hown, hts, hE, hA, rfl, hr, hlk, rfl⟩ := C
  intro H locs ls hP hD hS hl
  exact lv_i2b hx hb d hv (k H locs ls hP hD hS hl)
theorem g_i2c (C : Ok g X cc own Ts rm ret nL) {x v : Int32} (d : decode cc pc = .ok (.i2c, 1)) (hv : (x.toUInt32 % 65536).toInt32 = v) (k : G g X q ws (pc + 1) lv (.int v :: rest)) : G g X q ws pc lv (.int x :: rest) := by
  obtain ⟨p, l, e, R, s, m, args, below, meth, c, A, n9, Q⟩ := X
  obtain ⟨hx, hb, hml, hown, hts, hE, hA, rfl, hr, hlk, rfl⟩ := C
  intro H locs ls hP hD hS hl
  exact lv_i2c hx hb d hv (k H locs ls hP hD hS hl)
theorem g_i2l (C : Ok g X cc own Ts rm ret nL) {x : Int32} {v : Int64} (d : decode cc pc = .ok (.i2l, 1)) (hv : x.toInt64 = v) (k : G g X q ws (pc + 1) lv (.long v :: rest)) : G g X q ws pc lv (.int x :: rest) := by
  obtain ⟨p, l, e, R, s, m, args, below, meth, c, A, n9, Q⟩ := X
  obtain ⟨hx, hb, hml, hown, hts, hE, hA, rfl, hr, hlk, rfl⟩ := C
  intro H locs ls hP hD hS hl
  exact lv_i2l hx hb d hv (k H locs ls hP hD hS hl)
theorem g_l2i (C : Ok g X cc own Ts rm ret nL) {x : Int64} {v : Int32} (d : decode cc pc = .ok (.l2i, 1)) (hv : x.toInt32 = v) (k : G g X q ws (pc + 1) lv (.int v :: rest)) : G g X q ws pc lv (.long x :: rest) := by
  obtain ⟨p, l, e, R, s, m, args, below, meth, c, A, n9, Q⟩ := X
  obtain ⟨hx, hb, hml, hown, hts, hE, hA, rfl, hr, hlk, rfl⟩ := C
  intro H locs ls hP hD hS hl
  exact lv_l2i hx hb d hv (k H locs ls hP hD hS hl)
theorem g_lcmp (C : Ok g X cc own Ts rm ret nL) {x y : Int64} (d : decode cc pc = .ok (.lcmp, 1)) (k : G g X q ws (pc + 1) lv (.int (lg_cmp x y) :: rest)) : G g X q ws pc lv (.long y :: .long x :: rest) := by
  obtain ⟨p, l, e, R, s, m, args, below, meth, c, A, n9, Q⟩ := X
  obtain ⟨hx, hb, hml, hown, hts, hE, hA, rfl, hr, hlk, rfl⟩ := C
  intro H locs ls hP hD hS hl
  exact W.lcmp hx hb d (k H locs ls hP hD hS hl)
theorem g_pop (C : Ok g X cc own Ts rm ret nL) {va : Value} (d : decode cc pc = .ok (.pop, 1)) (hc : va.category = 1) (k : G g X q ws (pc + 1) lv rest) : G g X q ws pc lv (va :: rest) := by
  obtain ⟨p, l, e, R, s, m, args, below, meth, c, A, n9, Q⟩ := X
  obtain ⟨hx, hb, hml, hown, hts, hE, hA, rfl, hr, hlk, rfl⟩ := C
  intro H locs ls hP hD hS hl
  exact lv_pop hx hb d hc (k H locs ls hP hD hS hl)
theorem g_dup (C : Ok g X cc own Ts rm ret nL) {va : Value} (d : decode cc pc = .ok (.dup, 1)) (hc : va.category = 1) (k : G g X q ws (pc + 1) lv (va :: va :: rest)) : G g X q ws pc lv (va :: rest) := by
  obtain ⟨p, l, e, R, s, m, args, below, meth, c, A, n9, Q⟩ := X
  obtain ⟨hx, hb, hml, hown, hts, hE, hA, rfl, hr, hlk, rfl⟩ := C
  intro H locs ls hP hD hS hl
  exact lv_dup hx hb d hc (k H locs ls hP hD hS hl)
theorem g_goto (C : Ok g X cc own Ts rm ret nL) {off : Int} {tgt : Nat} (d : decode cc pc = .ok (.goto off, 3)) (ht : (pc : Int) + off = (tgt : Int)) (k : G g X q ws tgt lv rest) : G g X q ws pc lv rest := by
  obtain ⟨p, l, e, R, s, m, args, below, meth, c, A, n9, Q⟩ := X
  obtain ⟨hx, hb, hml, hown, hts, hE, hA, rfl, hr, hlk, rfl⟩ := C
  intro H locs ls hP hD hS hl
  exact lv_goto hx hb d ht (k H locs ls hP hD hS hl)
theorem g_if_eq (C : Ok g X cc own Ts rm ret nL) {x : Int32} {off : Int} {tgt : Nat} (d : decode cc pc = .ok (.ifCond .eq off, 3)) (ht : (pc : Int) + off = (tgt : Int)) (kt : x = 0 → G g X q ws tgt lv rest) (kf : ¬ x = 0 → G g X q ws (pc + 3) lv rest) : G g X q ws pc lv (.int x :: rest) := by
  obtain ⟨p, l, e, R, s, m, args, below, meth, c, A, n9, Q⟩ := X
  obtain ⟨hx, hb, hml, hown, hts, hE, hA, rfl, hr, hlk, rfl⟩ := C
  intro H locs ls hP hD hS hl
  exact lv_if_eq hx hb d ht (fun h => kt h H locs ls hP hD hS hl) (fun h => kf h H locs ls hP hD hS hl)
theorem g_icmp_eq (C : Ok g X cc own Ts rm ret nL) {x y : Int32} {off : Int} {tgt : Nat} (d : decode cc pc = .ok (.if_icmp .eq off, 3)) (ht : (pc : Int) + off = (tgt : Int)) (kt : x = y → G g X q ws tgt lv rest) (kf : ¬ x = y → G g X q ws (pc + 3) lv rest) : G g X q ws pc lv (.int y :: .int x :: rest) := by
  obtain ⟨p, l, e, R, s, m, args, below, meth, c, A, n9, Q⟩ := X
  obtain ⟨hx, hb, hml, hown, hts, hE, hA, rfl, hr, hlk, rfl⟩ := C
  intro H locs ls hP hD hS hl
  exact lv_icmp_eq hx hb d ht (fun h => kt h H locs ls hP hD hS hl) (fun h => kf h H locs ls hP hD hS hl)
theorem g_if_ne (C : Ok g X cc own Ts rm ret nL) {x : Int32} {off : Int} {tgt : Nat} (d : decode cc pc = .ok (.ifCond .ne off, 3)) (ht : (pc : Int) + off = (tgt : Int)) (kt : ¬ x = 0 → G g X q ws tgt lv rest) (kf : x = 0 → G g X q ws (pc + 3) lv rest) : G g X q ws pc lv (.int x :: rest) := by
  obtain ⟨p, l, e, R, s, m, args, below, meth, c, A, n9, Q⟩ := X
  obtain ⟨hx, hb, hml, hown, hts, hE, hA, rfl, hr, hlk, rfl⟩ := C
  intro H locs ls hP hD hS hl
  exact lv_if_ne hx hb d ht (fun h => kt h H locs ls hP hD hS hl) (fun h => kf h H locs ls hP hD hS hl)
theorem g_icmp_ne (C : Ok g X cc own Ts rm ret nL) {x y : Int32} {off : Int} {tgt : Nat} (d : decode cc pc = .ok (.if_icmp .ne off, 3)) (ht : (pc : Int) + off = (tgt : Int)) (kt : ¬ x = y → G g X q ws tgt lv rest) (kf : x = y → G g X q ws (pc + 3) lv rest) : G g X q ws pc lv (.int y :: .int x :: rest) := by
  obtain ⟨p, l, e, R, s, m, args, below, meth, c, A, n9, Q⟩ := X
  obtain ⟨hx, hb, hml, hown, hts, hE, hA, rfl, hr, hlk, rfl⟩ := C
  intro H locs ls hP hD hS hl
  exact lv_icmp_ne hx hb d ht (fun h => kt h H locs ls hP hD hS hl) (fun h => kf h H locs ls hP hD hS hl)
theorem g_if_lt (C : Ok g X cc own Ts rm ret nL) {x : Int32} {off : Int} {tgt : Nat} (d : decode cc pc = .ok (.ifCond .lt off, 3)) (ht : (pc : Int) + off = (tgt : Int)) (kt : x < 0 → G g X q ws tgt lv rest) (kf : ¬ x < 0 → G g X q ws (pc + 3) lv rest) : G g X q ws pc lv (.int x :: rest) := by
  obtain ⟨p, l, e, R, s, m, args, below, meth, c, A, n9, Q⟩ := X
  obtain ⟨hx, hb, hml, hown, hts, hE, hA, rfl, hr, hlk, rfl⟩ := C
  intro H locs ls hP hD hS hl
  exact lv_if_lt hx hb d ht (fun h => kt h H locs ls hP hD hS hl) (fun h => kf h H locs ls hP hD hS hl)
theorem g_icmp_lt (C : Ok g X cc own Ts rm ret nL) {x y : Int32} {off : Int} {tgt : Nat} (d : decode cc pc = .ok (.if_icmp .lt off, 3)) (ht : (pc : Int) + off = (tgt : Int)) (kt : x < y → G g X q ws tgt lv rest) (kf : ¬ x < y → G g X q ws (pc + 3) lv rest) : G g X q ws pc lv (.int y :: .int x :: rest) := by
  obtain ⟨p, l, e, R, s, m, args, below, meth, c, A, n9, Q⟩ := X
  obtain ⟨hx, hb, hml, hown, hts, hE, hA, rfl, hr, hlk, rfl⟩ := C
  intro H locs ls hP hD hS hl
  exact lv_icmp_lt hx hb d ht (fun h => kt h H locs ls hP hD hS hl) (fun h => kf h H locs ls hP hD hS hl)
theorem g_if_ge (C : Ok g X cc own Ts rm ret nL) {x : Int32} {off : Int} {tgt : Nat} (d : decode cc pc = .ok (.ifCond .ge off, 3)) (ht : (pc : Int) + off = (tgt : Int)) (kt : 0 ≤ x → G g X q ws tgt lv rest) (kf : ¬ 0 ≤ x → G g X q ws (pc + 3) lv rest) : G g X q ws pc lv (.int x :: rest) := by
  obtain ⟨p, l, e, R, s, m, args, below, meth, c, A, n9, Q⟩ := X
  obtain ⟨hx, hb, hml, hown, hts, hE, hA, rfl, hr, hlk, rfl⟩ := C
  intro H locs ls hP hD hS hl
  exact lv_if_ge hx hb d ht (fun h => kt h H locs ls hP hD hS hl) (fun h => kf h H locs ls hP hD hS hl)
theorem g_icmp_ge (C : Ok g X cc own Ts rm ret nL) {x y : Int32} {off : Int} {tgt : Nat} (d : decode cc pc = .ok (.if_icmp .ge off, 3)) (ht : (pc : Int) + off = (tgt : Int)) (kt : y ≤ x → G g X q ws tgt lv rest) (kf : ¬ y ≤ x → G g X q ws (pc + 3) lv rest) : G g X q ws pc lv (.int y :: .int x :: rest) := by
  obtain ⟨p, l, e, R, s, m, args, below, meth, c, A, n9, Q⟩ := X
  obtain ⟨hx, hb, hml, hown, hts, hE, hA, rfl, hr, hlk, rfl⟩ := C
  intro H locs ls hP hD hS hl
  exact lv_icmp_ge hx hb d ht (fun h => kt h H locs ls hP hD hS hl) (fun h => kf h H locs ls hP hD hS hl)
theorem g_if_gt (C : Ok g X cc own Ts rm ret nL) {x : Int32} {off : Int} {tgt : Nat} (d : decode cc pc = .ok (.ifCond .gt off, 3)) (ht : (pc : Int) + off = (tgt : Int)) (kt : 0 < x → G g X q ws tgt lv rest) (kf : ¬ 0 < x → G g X q ws (pc + 3) lv rest) : G g X q ws pc lv (.int x :: rest) := by
  obtain ⟨p, l, e, R, s, m, args, below, meth, c, A, n9, Q⟩ := X
  obtain ⟨hx, hb, hml, hown, hts, hE, hA, rfl, hr, hlk, rfl⟩ := C
  intro H locs ls hP hD hS hl
  exact lv_if_gt hx hb d ht (fun h => kt h H locs ls hP hD hS hl) (fun h => kf h H locs ls hP hD hS hl)
theorem g_icmp_gt (C : Ok g X cc own Ts rm ret nL) {x y : Int32} {off : Int} {tgt : Nat} (d : decode cc pc = .ok (.if_icmp .gt off, 3)) (ht : (pc : Int) + off = (tgt : Int)) (kt : y < x → G g X q ws tgt lv rest) (kf : ¬ y < x → G g X q ws (pc + 3) lv rest) : G g X q ws pc lv (.int y :: .int x :: rest) := by
  obtain ⟨p, l, e, R, s, m, args, below, meth, c, A, n9, Q⟩ := X
  obtain ⟨hx, hb, hml, hown, hts, hE, hA, rfl, hr, hlk, rfl⟩ := C
  intro H locs ls hP hD hS hl
  exact lv_icmp_gt hx hb d ht (fun h => kt h H locs ls hP hD hS hl) (fun h => kf h H locs ls hP hD hS hl)
theorem g_if_le (C : Ok g X cc own Ts rm ret nL) {x : Int32} {off : Int} {tgt : Nat} (d : decode cc pc = .ok (.ifCond .le off, 3)) (ht : (pc : Int) + off = (tgt : Int)) (kt : x ≤ 0 → G g X q ws tgt lv rest) (kf : ¬ x ≤ 0 → G g X q ws (pc + 3) lv rest) : G g X q ws pc lv (.int x :: rest) := by
  obtain ⟨p, l, e, R, s, m, args, below, meth, c, A, n9, Q⟩ := X
  obtain ⟨hx, hb, hml, hown, hts, hE, hA, rfl, hr, hlk, rfl⟩ := C
  intro H locs ls hP hD hS hl
  exact lv_if_le hx hb d ht (fun h => kt h H locs ls hP hD hS hl) (fun h => kf h H locs ls hP hD hS hl)
theorem g_icmp_le (C : Ok g X cc own Ts rm ret nL) {x y : Int32} {off : Int} {tgt : Nat} (d : decode cc pc = .ok (.if_icmp .le off, 3)) (ht : (pc : Int) + off = (tgt : Int)) (kt : x ≤ y → G g X q ws tgt lv rest) (kf : ¬ x ≤ y → G g X q ws (pc + 3) lv rest) : G g X q ws pc lv (.int y :: .int x :: rest) := by
  obtain ⟨p, l, e, R, s, m, args, below, meth, c, A, n9, Q⟩ := X
  obtain ⟨hx, hb, hml, hown, hts, hE, hA, rfl, hr, hlk, rfl⟩ := C
  intro H locs ls hP hD hS hl
  exact lv_icmp_le hx hb d ht (fun h => kt h H locs ls hP hD hS hl) (fun h => kf h H locs ls hP hD hS hl)
theorem g_lookup (C : Ok g X cc own Ts rm ret nL) {dflt : Int} {ps : Array (Int × Int)} {len : Nat} {x : Int32} {off : Int} {tgt : Nat} (d : decode cc pc = .ok (.lookupswitch dflt ps, len)) (hp : (ps.toList.zip (ps.toList.drop 1)).all (fun (a, next) => a.1 < next.1) = true) (ho : Op.lookupswitch.offset ps.toList dflt x.toInt = off) (ht : (pc : Int) + off = (tgt : Int)) (k : G g X q ws tgt lv rest) : G g X q ws pc lv (.int x :: rest) := by
  obtain ⟨p, l, e, R, s, m, args, below, meth, c, A, n9, Q⟩ := X
  obtain ⟨hx, hb, hml, hown, hts, hE, hA, rfl, hr, hlk, rfl⟩ := C
  intro H locs ls hP hD hS hl
  exact lv_lookup hx hb d hp ho ht (k H locs ls hP hD hS hl)
theorem g_tableOut (C : Ok g X cc own Ts rm ret nL) {dflt lo hi : Int} {offs : Array Int} {len : Nat} {x : Int32} {tgt : Nat} (d : decode cc pc = .ok (.tableswitch dflt lo hi offs, len)) (h : x.toInt < lo ∨ hi < x.toInt) (ht : (pc : Int) + dflt = (tgt : Int)) (k : G g X q ws tgt lv rest) : G g X q ws pc lv (.int x :: rest) := by
  obtain ⟨p, l, e, R, s, m, args, below, meth, c, A, n9, Q⟩ := X
  obtain ⟨hx, hb, hml, hown, hts, hE, hA, rfl, hr, hlk, rfl⟩ := C
  intro H locs ls hP hD hS hl
  exact lv_tableOut hx hb d h ht (k H locs ls hP hD hS hl)
theorem g_tableIn (C : Ok g X cc own Ts rm ret nL) {dflt lo hi : Int} {offs : Array Int} {len : Nat} {x : Int32} {off : Int} {tgt : Nat} (d : decode cc pc = .ok (.tableswitch dflt lo hi offs, len)) (h1 : ¬ x.toInt < lo) (h2 : ¬ hi < x.toInt) (ho : offs[(x.toInt - lo).toNat]? = some off) (ht : (pc : Int) + off = (tgt : Int)) (k : G g X q ws tgt lv rest) : G g X q ws pc lv (.int x :: rest) := by
  obtain ⟨p, l, e, R, s, m, args, below, meth, c, A, n9, Q⟩ := X
  obtain ⟨hx, hb, hml, hown, hts, hE, hA, rfl, hr, hlk, rfl⟩ := C
  intro H locs ls hP hD hS hl
  exact lv_tableIn hx hb d h1 h2 ho ht (k H locs ls hP hD hS hl)
theorem g_get0 (C : Ok g X cc own Ts rm ret nL) (hin : ∀ w ∈ wsX00, w ∈ Ts) {idx a : Nat} {fs : List Value} {v : Value} (o : Nat) (he : ws[o]? = some (a, .inr (0, fs))) (k0 : Nat) (hk : k0 < 13) (hm : Cond.fieldLink own idx (TX0 k0).1 (TX0 k0).2.1 (TX0 k0).2.2.1 ∈ Ts) (hv : fs[k0]? = some v) (d : decode cc pc = .ok (.getfield idx, 3)) (k : G g X q ws (pc + 3) lv (v :: rest)) : G g X q ws pc lv (.ref a :: rest) := by
  obtain ⟨p, l, e, R, s, m, args, below, meth, c, A, n9, Q⟩ := X
  obtain ⟨hx, hb, hml, hown, hts, hE, hA, rfl, hr, hlk, rfl⟩ := C
  intro H locs ls hP hD hS hl
  exact va_get (C := RX0) (T := TX0) (N := 13) (ref := (TX0 k0).1) hx hb hts hin hown hE.1 hP o he rfl k0 hk (hts _ hm) (fun _ h => h) hv d (k H locs ls hP hD hS hl)
theorem g_put0 (C : Ok g X cc own Ts rm ret nL) (hin : ∀ w ∈ wsX00, w ∈ Ts) {idx a : Nat} {fs : List Value} {v : Value} {ws' : va_W} (o : Nat) (he : ws[o]? = some (a, .inr (0, fs))) (k0 : Nat) (hk : k0 < 13) (hm : Cond.fieldLink own idx (TX0 k0).1 (TX0 k0).2.1 (TX0 k0).2.2.1 ∈ Ts) (hf : (TX0 k0).2.2.2 = false) (hn : narrow (tyX0 k0) v = v) (hfit : fits (tyX0 k0) v = true) (hl0 : k0 < fs.length) (hw : ws.set o (a, .inr (0, fs.set k0 v)) = ws') (d : decode cc pc = .ok (.putfield idx, 3)) (k : G g X q ws' (pc + 3) lv rest) : G g X q ws pc lv (v :: .ref a :: rest) := by
  obtain ⟨p, l, e, R, s, m, args, below, meth, c, A, n9, Q⟩ := X
  obtain ⟨hx, hb, hml, hown, hts, hE, hA, rfl, hr, hlk, rfl⟩ := C
  intro H locs ls hP hD hS hl
  subst hw
  exact va_put (C := RX0) (T := TX0) (N := 13) (ref := (TX0 k0).1) hx hb hts hin tyX0 tyX0_ok nmX0 hown hE.1 hP hD hS o he rfl k0 hk (hts _ hm) (fun _ h => h) hf (tyX0_ok k0 hk) hn hfit hl0 d (fun H locs hP hD hS => k H locs ls hP hD hS hl)
theorem g_get1 (C : Ok g X cc own Ts rm ret nL) (hin : ∀ w ∈ wsX10, w ∈ Ts) {idx a : Nat} {fs : List Value} {v : Value} (o : Nat) (he : ws[o]? = some (a, .inr (1, fs))) (k0 : Nat) (hk : k0 < 10) (hm : Cond.fieldLink own idx (TX1 k0).1 (TX1 k0).2.1 (TX1 k0).2.2.1 ∈ Ts) (hv : fs[k0]? = some v) (d : decode cc pc = .ok (.getfield idx, 3)) (k : G g X q ws (pc + 3) lv (v :: rest)) : G g X q ws pc lv (.ref a :: rest) := by
  obtain ⟨p, l, e, R, s, m, args, below, meth, c, A, n9, Q⟩ := X
  obtain ⟨hx, hb, hml, hown, hts, hE, hA, rfl, hr, hlk, rfl⟩ := C
  intro H locs ls hP hD hS hl
  exact va_get (C := RX1) (T := TX1) (N := 10) (ref := (TX1 k0).1) hx hb hts hin hown hE.1 hP o he rfl k0 hk (hts _ hm) (fun _ h => h) hv d (k H locs ls hP hD hS hl)
theorem g_put1 (C : Ok g X cc own Ts rm ret nL) (hin : ∀ w ∈ wsX10, w ∈ Ts) {idx a : Nat} {fs : List Value} {v : Value} {ws' : va_W} (o : Nat) (he : ws[o]? = some (a, .inr (1, fs))) (k0 : Nat) (hk : k0 < 10) (hm : Cond.fieldLink own idx (TX1 k0).1 (TX1 k0).2.1 (TX1 k0).2.2.1 ∈ Ts) (hf : (TX1 k0).2.2.2 = false) (hn : narrow (tyX1 k0) v = v) (hfit : fits (tyX1 k0) v = true) (hl0 : k0 < fs.length) (hw : ws.set o (a, .inr (1, fs.set k0 v)) = ws') (d : decode cc pc = .ok (.putfield idx, 3)) (k : G g X q ws' (pc + 3) lv rest) : G g X q ws pc lv (v :: .ref a :: rest) := by
  obtain ⟨p, l, e, R, s, m, args, below, meth, c, A, n9, Q⟩ := X
  obtain ⟨hx, hb, hml, hown, hts, hE, hA, rfl, hr, hlk, rfl⟩ := C
  intro H locs ls hP hD hS hl
  subst hw
  exact va_put (C := RX1) (T := TX1) (N := 10) (ref := (TX1 k0).1) hx hb hts hin tyX1 tyX1_ok nmX1 hown hE.1 hP hD hS o he rfl k0 hk (hts _ hm) (fun _ h => h) hf (tyX1_ok k0 hk) hn hfit hl0 d (fun H locs hP hD hS => k H locs ls hP hD hS hl)
theorem g_bald (C : Ok g X cc own Ts rm ret nL) {a n : Nat} {f : Nat → Int32} {i : Int32} (o : Nat) (he : ws[o]? = some (a, .inl (gB g, n, .inl f))) (hi : vp_in i n) (d : decode cc pc = .ok (.baload, 1)) (k : G g X q ws (pc + 1) lv (.int (f i.toNatClampNeg) :: rest)) : G g X q ws pc lv (.int i :: .ref a :: rest) := by
  obtain ⟨p, l, e, R, s, m, args, below, meth, c, A, n9, Q⟩ := X
  obtain ⟨hx, hb, hml, hown, hts, hE, hA, rfl, hr, hlk, rfl⟩ := C
  intro H locs ls hP hD hS hl
  exact va_bald hx hb hE.1 hP o 0 he rfl hi d (k H locs ls hP hD hS hl)
theorem g_iald (C : Ok g X cc own Ts rm ret nL) {a n : Nat} {f : Nat → Int32} {i : Int32} (o : Nat) (he : ws[o]? = some (a, .inl (gI g, n, .inl f))) (hi : vp_in i n) (d : decode cc pc = .ok (.iaload, 1)) (k : G g X q ws (pc + 1) lv (.int (f i.toNatClampNeg) :: rest)) : G g X q ws pc lv (.int i :: .ref a :: rest) := by
  obtain ⟨p, l, e, R, s, m, args, below, meth, c, A, n9, Q⟩ := X
  obtain ⟨hx, hb, hml, hown, hts, hE, hA, rfl, hr, hlk, rfl⟩ := C
  intro H locs ls hP hD hS hl
  exact va_iald hx hb hE.1 hP o 1 he rfl hi d (k H locs ls hP hD hS hl)
theorem g_iast (C : Ok g X cc own Ts rm ret nL) {a n : Nat} {f : Nat → Int32} {i x : Int32} {ws' : va_W} (o : Nat) (he : ws[o]? = some (a, .inl (gI g, n, .inl f))) (hi : vp_in i n) (hw : ws.set o (a, .inl (gI g, n, .inl (upd f i.toNatClampNeg x))) = ws') (d : decode cc pc = .ok (.iastore, 1)) (k : G g X q ws' (pc + 1) lv rest) : G g X q ws pc lv (.int x :: .int i :: .ref a :: rest) := by
  obtain ⟨p, l, e, R, s, m, args, below, meth, c, A, n9, Q⟩ := X
  obtain ⟨hx, hb, hml, hown, hts, hE, hA, rfl, hr, hlk, rfl⟩ := C
  intro H locs ls hP hD hS hl
  subst hw
  exact va_iast hx hb hE.1 hP hD hS o 1 he rfl hi d (fun H locs hP hD hS => k H locs ls hP hD hS hl)
theorem g_bast (C : Ok g X cc own Ts rm ret nL) {a n : Nat} {f : Nat → Int32} {i x v : Int32} {ws' : va_W} (o : Nat) (he : ws[o]? = some (a, .inl (gB g, n, .inl f))) (hi : vp_in i n) (hv : vp_nar .byte x = v) (hw : ws.set o (a, .inl (gB g, n, .inl (upd f i.toNatClampNeg v))) = ws') (d : decode cc pc = .ok (.bastore, 1)) (k : G g X q ws' (pc + 1) lv rest) : G g X q ws pc lv (.int x :: .int i :: .ref a :: rest) := by
  obtain ⟨p, l, e, R, s, m, args, below, meth, c, A, n9, Q⟩ := X
  obtain ⟨hx, hb, hml, hown, hts, hE, hA, rfl, hr, hlk, rfl⟩ := C
  intro H locs ls hP hD hS hl
  subst hw; subst hv
  exact va_bast hx hb hE.1 hP hD hS o 0 he rfl hi d (fun H locs hP hD hS => k H locs ls hP hD hS hl)
theorem g_alenB (C : Ok g X cc own Ts rm ret nL) {a n : Nat} {f : Nat → Int32} {v : Int32} (o : Nat) (he : ws[o]? = some (a, .inl (gB g, n, .inl f))) (hv : Int32.ofNat n = v) (d : decode cc pc = .ok (.arraylength, 1)) (k : G g X q ws (pc + 1) lv (.int v :: rest)) : G g X q ws pc lv (.ref a :: rest) := by
  obtain ⟨p, l, e, R, s, m, args, below, meth, c, A, n9, Q⟩ := X
  obtain ⟨hx, hb, hml, hown, hts, hE, hA, rfl, hr, hlk, rfl⟩ := C
  intro H locs ls hP hD hS hl
  exact va_alen hx hb hE.1 hP o 0 he rfl hv d (k H locs ls hP hD hS hl)
theorem g_alenI (C : Ok g X cc own Ts rm ret nL) {a n : Nat} {f : Nat → Int32} {v : Int32} (o : Nat) (he : ws[o]? = some (a, .inl (gI g, n, .inl f))) (hv : Int32.ofNat n = v) (d : decode cc pc = .ok (.arraylength, 1)) (k : G g X q ws (pc + 1) lv (.int v :: rest)) : G g X q ws pc lv (.ref a :: rest) := by
  obtain ⟨p, l, e, R, s, m, args, below, meth, c, A, n9, Q⟩ := X
  obtain ⟨hx, hb, hml, hown, hts, hE, hA, rfl, hr, hlk, rfl⟩ := C
  intro H locs ls hP hD hS hl
  exact va_alen hx hb hE.1 hP o 1 he rfl hv d (k H locs ls hP hD hS hl)
theorem g_getsW (C : Ok g X cc own Ts rm ret nL) {idx : Nat} (hm : Cond.fieldLink own idx "TokenRows" "WORDS" "[C" ∈ Ts) (d : decode cc pc = .ok (.getstatic idx, 3)) (k : G g X q ws (pc + 3) lv (.ref (gW g) :: rest)) : G g X q ws pc lv rest := by
  obtain ⟨p, l, e, R, s, m, args, below, meth, c, A, n9, Q⟩ := X
  obtain ⟨hx, hb, hml, hown, hts, hE, hA, rfl, hr, hlk, rfl⟩ := C
  intro H locs ls hP hD hS hl
  exact va_gets hx hb hE.2.1 hS hown (hts _ hm) (fun _ h => h) d (k H locs ls hP hD hS hl)
theorem g_getsC (C : Ok g X cc own Ts rm ret nL) {idx : Nat} (hm : Cond.fieldLink own idx "java/lang/String" "COMPACT_STRINGS" "Z" ∈ Ts) (d : decode cc pc = .ok (.getstatic idx, 3)) (k : G g X q ws (pc + 3) lv (.int 1 :: rest)) : G g X q ws pc lv rest := by
  obtain ⟨p, l, e, R, s, m, args, below, meth, c, A, n9, Q⟩ := X
  obtain ⟨hx, hb, hml, hown, hts, hE, hA, rfl, hr, hlk, rfl⟩ := C
  intro H locs ls hP hD hS hl
  exact va_gets hx hb hE.2.2.2.2.2.2.1 hS hown (hts _ hm) (fun _ h => h) d (k H locs ls hP hD hS hl)
theorem g_getsF (C : Ok g X cc own Ts rm ret nL) {idx : Nat} (hm : Cond.fieldLink own idx "jdk/internal/util/Preconditions" "SIOOBE_FORMATTER" "Ljava/util/function/BiFunction;" ∈ Ts) (d : decode cc pc = .ok (.getstatic idx, 3)) (k : ∀ v : Value, (v = .null ∨ ∃ t : Nat, v = .ref t) → G g X q ws (pc + 3) lv (v :: rest)) : G g X q ws pc lv rest := by
  obtain ⟨p, l, e, R, s, m, args, below, meth, c, A, n9, Q⟩ := X
  obtain ⟨hx, hb, hml, hown, hts, hE, hA, rfl, hr, hlk, rfl⟩ := C
  intro H locs ls hP hD hS hl
  rcases hE.2.2.2.2.2.2.2 with h | ⟨t, h⟩
  · exact va_gets hx hb h hS hown (hts _ hm) (fun _ h => h) d (k .null (Or.inl rfl) H locs ls hP hD hS hl)
  · exact va_gets hx hb h hS hown (hts _ hm) (fun _ h => h) d (k (.ref t) (Or.inr ⟨t, rfl⟩) H locs ls hP hD hS hl)
theorem g_caldW (C : Ok g X cc own Ts rm ret nL) {i v : Int32} (hi : vp_in i 66) (hv : nI (wWd.getD i.toNatClampNeg 0) = v) (d : decode cc pc = .ok (.caload, 1)) (k : G g X q ws (pc + 1) lv (.int v :: rest)) : G g X q ws pc lv (.int i :: .ref (gW g) :: rest) := by
  obtain ⟨p, l, e, R, s, m, args, below, meth, c, A, n9, Q⟩ := X
  obtain ⟨hx, hb, hml, hown, hts, hE, hA, rfl, hr, hlk, rfl⟩ := C
  intro H locs ls hP hD hS hl
  exact va_tc hx hb hE.2.2.1 hS hi (by rw [← hv]) d (k H locs ls hP hD hS hl)
theorem g_alenW (C : Ok g X cc own Ts rm ret nL) (d : decode cc pc = .ok (.arraylength, 1)) (k : G g X q ws (pc + 1) lv (.int (nI 66) :: rest)) : G g X q ws pc lv (.ref (gW g) :: rest) := by
  obtain ⟨p, l, e, R, s, m, args, below, meth, c, A, n9, Q⟩ := X
  obtain ⟨hx, hb, hml, hown, hts, hE, hA, rfl, hr, hlk, rfl⟩ := C
  intro H locs ls hP hD hS hl
  exact va_tlen hx hb hE.2.2.1 hS rfl d (k H locs ls hP hD hS hl)
theorem g_ldcS0 (C : Ok g X cc own Ts rm ret nL) (ho : own = "TokenRowsModel") (d : decode cc pc = .ok (.ldc 102, 2)) (k : G g X q ws (pc + 2) lv (.ref (gK g 0) :: rest)) : G g X q ws pc lv rest := by
  subst ho
  obtain ⟨p, l, e, R, s, m, args, below, meth, c, A, n9, Q⟩ := X
  obtain ⟨hx, hb, hml, hown, hts, hE, hA, rfl, hr, hlk, rfl⟩ := C
  intro H locs ls hP hD hS hl
  exact va_ldcS hx hb hown hE.2.2.2.2.1 d (k H locs ls hP hD hS hl)
theorem g_ldcS1 (C : Ok g X cc own Ts rm ret nL) (ho : own = "TokenRowsModel") (d : decode cc pc = .ok (.ldc 115, 2)) (k : G g X q ws (pc + 2) lv (.ref (gK g 1) :: rest)) : G g X q ws pc lv rest := by
  subst ho
  obtain ⟨p, l, e, R, s, m, args, below, meth, c, A, n9, Q⟩ := X
  obtain ⟨hx, hb, hml, hown, hts, hE, hA, rfl, hr, hlk, rfl⟩ := C
  intro H locs ls hP hD hS hl
  exact va_ldcS hx hb hown hE.2.2.2.2.2.1 d (k H locs ls hP hD hS hl)
theorem g_getfV (C : Ok g X cc own Ts rm ret nL) {idx i : Nat} (hi : i < 2) (hm : Cond.fieldLink own idx "java/lang/String" "value" "[B" ∈ Ts) (d : decode cc pc = .ok (.getfield idx, 3)) (k : G g X q ws (pc + 3) lv (.ref (gV g i) :: rest)) : G g X q ws pc lv (.ref (gK g i) :: rest) := by
  obtain ⟨p, l, e, R, s, m, args, below, meth, c, A, n9, Q⟩ := X
  obtain ⟨hx, hb, hml, hown, hts, hE, hA, rfl, hr, hlk, rfl⟩ := C
  intro H locs ls hP hD hS hl
  exact vk_getf hx hb (hE.2.2.2.1.1 i hi).2.2.1 hS hown (hts _ hm) (fun _ h => h) d (k H locs ls hP hD hS hl)
theorem g_getfC (C : Ok g X cc own Ts rm ret nL) {idx i : Nat} (hi : i < 2) (hm : Cond.fieldLink own idx "java/lang/String" "coder" "B" ∈ Ts) (d : decode cc pc = .ok (.getfield idx, 3)) (k : G g X q ws (pc + 3) lv (.int 0 :: rest)) : G g X q ws pc lv (.ref (gK g i) :: rest) := by
  obtain ⟨p, l, e, R, s, m, args, below, meth, c, A, n9, Q⟩ := X
  obtain ⟨hx, hb, hml, hown, hts, hE, hA, rfl, hr, hlk, rfl⟩ := C
  intro H locs ls hP hD hS hl
  exact vk_getf hx hb (hE.2.2.2.1.1 i hi).2.1 hS hown (hts _ hm) (fun _ h => h) d (k H locs ls hP hD hS hl)
theorem g_alenV (C : Ok g X cc own Ts rm ret nL) {i : Nat} (hi : i < 2) {v : Int32} (hv : Int32.ofNat (kLen.getD i 0) = v) (d : decode cc pc = .ok (.arraylength, 1)) (k : G g X q ws (pc + 1) lv (.int v :: rest)) : G g X q ws pc lv (.ref (gV g i) :: rest) := by
  obtain ⟨p, l, e, R, s, m, args, below, meth, c, A, n9, Q⟩ := X
  obtain ⟨hx, hb, hml, hown, hts, hE, hA, rfl, hr, hlk, rfl⟩ := C
  intro H locs ls hP hD hS hl
  exact va_tlen hx hb (hE.2.2.2.1.1 i hi).2.2.2 hS hv d (k H locs ls hP hD hS hl)
theorem g_baldV (C : Ok g X cc own Ts rm ret nL) {i : Nat} (hi : i < 2) {x v : Int32} (hin : vp_in x (kLen.getD i 0)) (hv : (kByt.getD i []).getD x.toNatClampNeg 0 = v) (d : decode cc pc = .ok (.baload, 1)) (k : G g X q ws (pc + 1) lv (.int v :: rest)) : G g X q ws pc lv (.int x :: .ref (gV g i) :: rest) := by
  obtain ⟨p, l, e, R, s, m, args, below, meth, c, A, n9, Q⟩ := X
  obtain ⟨hx, hb, hml, hown, hts, hE, hA, rfl, hr, hlk, rfl⟩ := C
  intro H locs ls hP hD hS hl
  exact va_tb hx hb (hE.2.2.2.1.1 i hi).2.2.2 hS hin (by rw [← hv]) d (k H locs ls hP hD hS hl)
theorem g_minl (C : Ok g X cc own Ts rm ret nL) {idx : Nat} {x y v : Int64} (hm : [Cond.methodLink own idx Lib.MathLoose.min_long.x, .static Lib.MathLoose.min_long.x, .initialized "java/lang/Math", .code Lib.MathLoose.min_long.x Lib.MathLoose.min_long.code 4 (some .long)].all (fun w => decide (w ∈ Ts)) = true) (hR : 1 ≤ rm.frames ∧ (rest.map fun v => v.category).sum + 15 ≤ rm.locals ∧ q.1 ≤ rm.cells ∧ q.2 ≤ rm.slots) (hv : (if y < x then y else x) = v) (d : decode cc pc = .ok (.invokestatic idx, 3)) (k : G g X q ws (pc + 3) lv (.long v :: rest)) : G g X q ws pc lv (.long y :: .long x :: rest) := by
  obtain ⟨p, l, e, R, s, m, args, below, meth, c, A, n9, Q⟩ := X
  obtain ⟨hx, hb, hml, hown, hts, hE, hA, rfl, hr, hlk, rfl⟩ := C
  intro H locs ls hP hD hS hl
  subst hv
  have hm' := fun w h => hts w (of_decide_eq_true (List.all_eq_true.mp hm w h))
  exact va_mmin_long hx hb (by rw [hml]; exact hl.1.symm) hown (hm' _ (by simp)) (hm' _ (by simp)) (hm' _ (by simp)) (hm' _ (by simp)) hR.1 hR.2.1 hR.2.2.1 hR.2.2.2 d (k H locs ls hP hD hS hl)
end GR
def Fn (g : Gl) (X : Cx) (r : Option Value) (v : va_W) (k n : Nat) : Prop :=
  match X with
  | (_, _, _, _, s, _, args, below, _, _, A, _, Q) => ∃ Qc : Array Value → State → Outcome → State → Prop, Q = MQ below Qc args s k n A ∧ ∀ (H : Heap) (locs : List Loc), va_P (gD g) vwCl v H → va_D A v → va_S A s.heap H locs → ∀ t : State, t.heap = H → s.WarmedH t.vm → Qc args s (.returned r) t
theorem g_iret {g : Gl} {X : Cx} {cc : ByteArray} {own : String} {Ts : List Cond} {rm : Room} {nL : Nat} {k n : Nat} {ws v : va_W} {pc : Nat} {lv : List (Nat × Value)} {x r : Int32} (C : Ok g X cc own Ts rm (some .int) nL) (F : Fn g X (some (.int r)) v k n) (hr : x = r) (hw : ws = v) (d : decode cc pc = .ok (.ireturn, 1)) : G g X (k, n) ws pc lv [.int x] := by
  subst hw; subst hr
  obtain ⟨p, l, e, R, s, m, args, below, meth, c, A, n9, Q⟩ := X
  obtain ⟨hx, hb, hml, hown, hts, hE, hA, rfl, hr, hlk, rfl⟩ := C
  intro H locs ls hP hD hS hl
  obtain ⟨Qc, rfl, F⟩ := F
  exact W.iret hx hb hr (F H locs hP hD hS) hS.2.2 d hlk
theorem g_zret {g : Gl} {X : Cx} {cc : ByteArray} {own : String} {Ts : List Cond} {rm : Room} {nL : Nat} {k n : Nat} {ws v : va_W} {pc : Nat} {lv : List (Nat × Value)} {x r : Int32} {ty : FieldType} (C : Ok g X cc own Ts rm (some ty) nL) (F : Fn g X (some (.int r)) v k n) (hn : narrow ty (.int x) = .int x) (hr : x = r) (hw : ws = v) (d : decode cc pc = .ok (.ireturn, 1)) : G g X (k, n) ws pc lv [.int x] := by
  subst hw; subst hr
  obtain ⟨p, l, e, R, s, m, args, below, meth, c, A, n9, Q⟩ := X
  obtain ⟨hx, hb, hml, hown, hts, hE, hA, rfl, hr, hlk, rfl⟩ := C
  intro H locs ls hP hD hS hl
  obtain ⟨Qc, rfl, F⟩ := F
  exact W.zret hx hb hr hn (F H locs hP hD hS) hS.2.2 d hlk
theorem g_lret {g : Gl} {X : Cx} {cc : ByteArray} {own : String} {Ts : List Cond} {rm : Room} {nL : Nat} {k n : Nat} {ws v : va_W} {pc : Nat} {lv : List (Nat × Value)} {x r : Int64} (C : Ok g X cc own Ts rm (some .long) nL) (F : Fn g X (some (.long r)) v k n) (hr : x = r) (hw : ws = v) (d : decode cc pc = .ok (.lreturn, 1)) : G g X (k, n) ws pc lv [.long x] := by
  subst hw; subst hr
  obtain ⟨p, l, e, R, s, m, args, below, meth, c, A, n9, Q⟩ := X
  obtain ⟨hx, hb, hml, hown, hts, hE, hA, rfl, hr, hlk, rfl⟩ := C
  intro H locs ls hP hD hS hl
  obtain ⟨Qc, rfl, F⟩ := F
  exact W.lret hx hb hr (F H locs hP hD hS) hS.2.2 d hlk
theorem g_vret {g : Gl} {X : Cx} {cc : ByteArray} {own : String} {Ts : List Cond} {rm : Room} {nL : Nat} {k n : Nat} {ws v : va_W} {pc : Nat} {lv : List (Nat × Value)} (C : Ok g X cc own Ts rm (none) nL) (F : Fn g X (none) v k n) (hw : ws = v) (d : decode cc pc = .ok (.return_, 1)) : G g X (k, n) ws pc lv [] := by
  subst hw
  obtain ⟨p, l, e, R, s, m, args, below, meth, c, A, n9, Q⟩ := X
  obtain ⟨hx, hb, hml, hown, hts, hE, hA, rfl, hr, hlk, rfl⟩ := C
  intro H locs ls hP hD hS hl
  obtain ⟨Qc, rfl, F⟩ := F
  exact W.vret hx hb hr (F H locs hP hD hS) hS.2.2 d hlk
theorem Ctr.start {g : Gl} {y : MethodName} {ws ws' : List Cond} {rm : Room} {As : List Value} {w : va_W} {r : Option Value} {v : va_W} {k n : Nat} {cc : ByteArray} {maxL : Nat} {ret : Option FieldType} (hy : plainName y.cls = true) (hw : ws = Cond.code y cc maxL ret :: ws') (hlen : (lg_sl As).length ≤ maxL) {lv0 : List (Nat × Value)} (hlv : lv_args 0 As = lv0)
    (body : ∀ X : Cx, Ok g X cc y.cls ws rm ret maxL → Fn g X r v k n → G g X (0, 0) w 0 lv0 []) : Ctr g y ws rm As w r v k n := by
  subst hlv
  intro l sz
  refine Met.ofW (cc := cc) (maxL := maxL) (ret := ret) hy hw ?_
  intro p e s m args below meth c s₁ B hml hv
  obtain ⟨rfl, hsz, hP, hE, hD0⟩ := hv
  subst hsz
  have hb := body (p, l, e, (headSpec ws rm).room, s, m, As.toArray, below, meth, c, va_A w s.heap.size, maxL, MQ below (fun _ st oc t => (oc = .returned r ∧ va_P (gD g) vwCl v t.heap ∧ va_D (va_A w s.heap.size) v) ∧ va_F (va_A w s.heap.size) st t) As.toArray s k n (va_A w s.heap.size))
    ⟨B.exec, B.bytes, hml, findClass_of_methodNamed B.named, atoms_spec (ws := ws) B.pre, hE, fun q h => Or.inr h, rfl, B.returns, B.notSynchronized, rfl⟩
    ⟨_, rfl, fun H locs hP hD hS t ht hW => ⟨⟨rfl, by rw [ht]; exact hP, hD⟩, hS.F ht⟩⟩
  rw [lg_entry_eq]
  exact hb s.heap [] _ hP hD0.self va_S.rf (lv_entry As hlen)
section GC
variable {g : Gl} {X : Cx} {cc : ByteArray} {own : String} {Ts : List Cond} {rm : Room} {ret : Option FieldType} {nL : Nat} {q : Nat × Nat} {ws : va_W} {pc : Nat} {lv : List (Nat × Value)} {rest : List Value}
theorem ctr_blind (g : Gl) (As : List Value) (w : va_W) (sz : Nat) : FrameBlind (va_Pc As (fun U => U.heap.size = sz ∧ va_P (gD g) vwCl w U.heap ∧ Env0 g (va_A w sz) U U.heap ∧ va_D (fun _ => True) w)) := fun a U f mk h => by
  obtain ⟨h0, h1, h2, h3, h4⟩ := h
  exact ⟨h0, h1, h2, Env0.same (u := U) (U := U.calling f mk a) rfl h3, h4⟩
theorem va_A_in {A : Nat → Prop} {w : va_W} {H0 H : Heap} {locs : List Loc} (hD : va_D A w) (hS : va_S A H0 H locs) (hA : ∀ q : Nat, H0.size ≤ q → A q) : ∀ q, va_A w H.size q → A q := by
  intro q h
  rcases h with ⟨k, e, h⟩ | h
  · exact hD.2 k _ h
  · exact hA q (Nat.le_trans hS.1 h)
theorem va_A_nil {A : Nat → Prop} {H0 H : Heap} {locs : List Loc} (hS : va_S A H0 H locs) (hA : ∀ q : Nat, H0.size ≤ q → A q) : ∀ q, va_A [] H.size q → A q := by
  intro q h
  rcases h with ⟨k, e, h⟩ | h
  · simp at h
  · exact hA q (Nat.le_trans hS.1 h)
theorem va_A_0 {sz q : Nat} (h : q < sz) : ¬ va_A [] sz q := by
  intro z
  rcases z with ⟨k, e, z⟩ | z
  · simp at z
  · omega
/-- behind a call: the frame -/
theorem ctr_back {p : Program} {l : Launch} {e : Env} {R : Room} {s : State} {m : MethodId} {args : Array Value} {below : List Frame} {meth : Method} {c : Code} {H : Heap} {locs : List Loc} {cells slots k n : Nat} {Q : State → Prop} {pc : Nat} {ls : Array Slot} {st0 rest : List Value} {A A1 : Nat → Prop} {H0 : Heap} {g : Gl} {r : Option Value} {v : va_W}
    (hr : va_Run p l e R s m args below meth c H locs cells slots k n (F0 m pc ls st0) rest (fun st oc t => (oc = .returned r ∧ va_P (gD g) vwCl v t.heap ∧ va_D A1 v) ∧ va_F A1 st t) A1) (hS : va_S A H0 H locs) (hA : ∀ q, A1 q → A q)
    (kk : ∀ (H1 : Heap) (locs1 : List Loc), va_P (gD g) vwCl v H1 → va_D A1 v → H.size ≤ H1.size → (∀ q : Nat, q < H.size → ¬ A1 q → H1[q]? = H[q]?) → va_S A H0 H1 locs1 → W p l e R s m args below meth c H1 locs1 (cells + k) (slots + n) Q (F0 m (pc + 3) ls (r.toList ++ rest))) : W p l e R s m args below meth c H locs cells slots Q (F0 m pc ls st0) := by
  intro T hT X
  obtain ⟨w, st₀, t, T', L, h0, X', hL, e1, e2, ⟨⟨hv, hp, hb⟩, hz, hk⟩, st⟩ := hr T hT X
  cases hv
  rw [h0] at hz hk
  obtain ⟨t2, a1, b1⟩ := kk T'.heap (locs ++ L) (by rw [e1]; exact hp) hb (by rw [e1]; exact hz) (fun q h1 h2 => by rw [e1]; exact hk q h1 h2)
    ⟨Nat.le_trans hS.1 (by rw [e1]; exact hz), fun q h1 h2 => by rw [e1, hk q (Nat.lt_of_lt_of_le h1 hS.1) (fun z => h2 (hA q z))]; exact hS.2.1 q h1 h2, fun q hq => by
      rcases List.mem_append.mp hq with h | h
      · exact hS.2.2 q h
      · exact hA _ (hL q h)⟩ T' rfl X'
  exact ⟨t2, st t2 a1, b1⟩
theorem g_callVi (C : Ok g X cc own Ts rm ret nL) {y : MethodName} {wsy ws9 : List Cond} {rmy : Room} {bytes : ByteArray} {maxL idx a ci n N : Nat} {rt : Option FieldType} {Cn : String} {T : u_T} {fs As st : List Value} {ws' : va_W} {r : Int32} (hM : Ctr g y wsy rmy (.ref a :: As) ws (some (.int r)) ws' 0 0) (hG : GoodIn Ts (wsV own idx Cn y wsy)) (hwy : wsy = Cond.code y bytes maxL rt :: ws9) (hn : As.length = n) (he : ws[0]? = some (a, .inr (ci, fs))) (hc : vwCl[ci]? = some (Cn, T, N)) (hd : y.cls = Cn ∧ y.cls ≠ "java/lang/invoke/MethodHandle" ∧ y.cls ≠ "java/lang/invoke/VarHandle" ∧ (parseMethodDescriptor y.desc).map (fun d => d.parameters.length) = some n) (hR : rmy.cells = 0 ∧ rmy.slots = 0 ∧ rmy.frames + 1 ≤ rm.frames ∧ 8 + (maxL + 11) + rmy.locals ≤ rm.locals ∧ q.1 ≤ rm.cells ∧ q.2 ≤ rm.slots) (hst : st = As.reverse ++ .ref a :: rest) (hcat : (rest.map fun v => v.category).sum ≤ 8) (d : decode cc pc = .ok (.invokevirtual idx, 3)) (k : G g X q ws' (pc + 3) lv (.int r :: rest)) : G g X q ws pc lv st := by
  obtain ⟨p, l, e, R, s, m, args, below, meth, c, A, n9, Q⟩ := X
  obtain ⟨hx, hb, hml, hown, hts, hE, hA, rfl, hr, hlk, rfl⟩ := C
  intro H locs ls hP hD hS hl
  have hF := va_A_in hD hS hA
  refine ctr_back (g := g) (r := (some (.int r))) (v := ws') (A1 := va_A ws H.size) (k := 0) (n := 0) (va_runV (As := As) (b := a) (rest := rest) (nL := n9) ⟨hx, hb, hml, hown, hts⟩ (hM l H.size) (cwV n hts hG hwy hR.1 hR.2.1 hd ⟨hR.2.2.1, hR.2.2.2.1⟩) ⟨ctr_blind g _ _ _, va_recv hE.1 hP hc he, fun U hU hW => ⟨rfl, by rw [hU], by rw [hU]; exact hP, by rw [hU]; exact ((hE.kept hS.2.1).narrow hF).warm hW, hD.weaken (fun _ _ _ _ => trivial)⟩⟩ rfl hn hl.1 hst (lv_room hcat) d ⟨hR.2.2.2.2.1, hR.2.2.2.2.2⟩) hS hF ?_
  intro H1 locs1 hP1 hD1 hz hk hS1
  exact k H1 locs1 ls hP1 (hD1.weaken (fun _ _ _ h => hF _ h)) hS1 hl
theorem g_callSi (C : Ok g X cc own Ts rm ret nL) {y : MethodName} {wsy ws9 : List Cond} {rmy : Room} {bytes : ByteArray} {maxL idx n : Nat} {rt : Option FieldType} {As st : List Value} {r : Int32} (hM : Ctr g y wsy rmy As [] (some (.int r)) [] 0 0) (hG : GoodIn Ts (va_wsS own idx y wsy)) (hwy : wsy = Cond.code y bytes maxL rt :: ws9) (hn : As.length = n) (hd : y.cls ≠ "java/lang/invoke/MethodHandle" ∧ y.cls ≠ "java/lang/invoke/VarHandle" ∧ (parseMethodDescriptor y.desc).map (fun d => d.parameters.length) = some n) (hR : rmy.cells = 0 ∧ rmy.slots = 0 ∧ rmy.frames + 1 ≤ rm.frames ∧ 8 + (maxL + 11) + rmy.locals ≤ rm.locals ∧ q.1 ≤ rm.cells ∧ q.2 ≤ rm.slots) (hst : st = As.reverse ++ rest) (hcat : (rest.map fun v => v.category).sum ≤ 8) (d : decode cc pc = .ok (.invokestatic idx, 3)) (k : G g X q ws (pc + 3) lv (.int r :: rest)) : G g X q ws pc lv st := by
  obtain ⟨p, l, e, R, s, m, args, below, meth, c, A, n9, Q⟩ := X
  obtain ⟨hx, hb, hml, hown, hts, hE, hA, rfl, hr, hlk, rfl⟩ := C
  intro H locs ls hP hD hS hl
  have hF := va_A_nil hS hA
  refine ctr_back (g := g) (r := (some (.int r))) (v := []) (A1 := va_A [] H.size) (k := 0) (n := 0) (va_runS (As := As) (rest := rest) (nL := n9) ⟨hx, hb, hml, hown, hts⟩ (hM l H.size) (va_cwS n hts hG hwy hR.1 hR.2.1 hd ⟨hR.2.2.1, hR.2.2.2.1⟩) ⟨ctr_blind g _ _ _, fun U hU hW => ⟨rfl, by rw [hU], fun k q h => by simp at h, by rw [hU]; exact ((hE.kept hS.2.1).narrow hF).warm hW, ⟨fun i j p q h => by simp at h, fun k q h => by simp at h⟩⟩⟩ rfl hn hl.1 hst (lv_room hcat) d ⟨hR.2.2.2.2.1, hR.2.2.2.2.2⟩) hS hF ?_
  intro H1 locs1 hP1 hD1 hz hk hS1
  exact k H1 locs1 ls (hP.kept (fun j x hj => hk x.1 (hP j x hj).lt (va_A_0 (hP j x hj).lt))) hD hS1 hl
theorem g_callK (C : Ok g X cc own Ts rm ret nL) {y : MethodName} {wsy ws9 : List Cond} {rmy : Room} {bytes : ByteArray} {maxL idx n i : Nat} {rt : Option FieldType} {As st : List Value} {r : Int32} (hi : i < 2) (hM : Ctr g y wsy rmy (.ref (gK g i) :: As) [] (some (.int r)) [] 0 0) (hG : GoodIn Ts (wsV own idx "java/lang/String" y wsy)) (hwy : wsy = Cond.code y bytes maxL rt :: ws9) (hn : As.length = n) (hd : y.cls = "java/lang/String" ∧ y.cls ≠ "java/lang/invoke/MethodHandle" ∧ y.cls ≠ "java/lang/invoke/VarHandle" ∧ (parseMethodDescriptor y.desc).map (fun d => d.parameters.length) = some n) (hR : rmy.cells = 0 ∧ rmy.slots = 0 ∧ rmy.frames + 1 ≤ rm.frames ∧ 8 + (maxL + 11) + rmy.locals ≤ rm.locals ∧ q.1 ≤ rm.cells ∧ q.2 ≤ rm.slots) (hst : st = As.reverse ++ .ref (gK g i) :: rest) (hcat : (rest.map fun v => v.category).sum ≤ 8) (d : decode cc pc = .ok (.invokevirtual idx, 3)) (k : G g X q ws (pc + 3) lv (.int r :: rest)) : G g X q ws pc lv st := by
  obtain ⟨p, l, e, R, s, m, args, below, meth, c, A, n9, Q⟩ := X
  obtain ⟨hx, hb, hml, hown, hts, hE, hA, rfl, hr, hlk, rfl⟩ := C
  intro H locs ls hP hD hS hl
  have hF := va_A_nil hS hA
  refine ctr_back (g := g) (r := some (.int r)) (v := []) (A1 := va_A [] H.size) (k := 0) (n := 0) (va_runV (As := As) (b := gK g i) (rest := rest) (nL := n9) ⟨hx, hb, hml, hown, hts⟩ (hM l H.size) (cwV n hts hG hwy hR.1 hR.2.1 hd ⟨hR.2.2.1, hR.2.2.2.1⟩) ⟨ctr_blind g _ _ _, vk_recv hE.2.2.2.1 hi hS, fun U hU hW => ⟨rfl, by rw [hU], fun k q h => by simp at h, by rw [hU]; exact ((hE.kept hS.2.1).narrow hF).warm hW, ⟨fun i j p q h => by simp at h, fun k q h => by simp at h⟩⟩⟩ rfl hn hl.1 hst (lv_room hcat) d ⟨hR.2.2.2.2.1, hR.2.2.2.2.2⟩) hS hF ?_
  intro H1 locs1 hP1 hD1 hz hk hS1
  exact k H1 locs1 ls (hP.kept (fun j x hj => hk x.1 (hP j x hj).lt (va_A_0 (hP j x hj).lt))) hD hS1 hl
theorem g_callVv (C : Ok g X cc own Ts rm ret nL) {y : MethodName} {wsy ws9 : List Cond} {rmy : Room} {bytes : ByteArray} {maxL idx a ci n N : Nat} {rt : Option FieldType} {Cn : String} {T : u_T} {fs As st : List Value} {ws' : va_W} (hM : Ctr g y wsy rmy (.ref a :: As) ws none ws' 0 0) (hG : GoodIn Ts (wsV own idx Cn y wsy)) (hwy : wsy = Cond.code y bytes maxL rt :: ws9) (hn : As.length = n) (he : ws[0]? = some (a, .inr (ci, fs))) (hc : vwCl[ci]? = some (Cn, T, N)) (hd : y.cls = Cn ∧ y.cls ≠ "java/lang/invoke/MethodHandle" ∧ y.cls ≠ "java/lang/invoke/VarHandle" ∧ (parseMethodDescriptor y.desc).map (fun d => d.parameters.length) = some n) (hR : rmy.cells = 0 ∧ rmy.slots = 0 ∧ rmy.frames + 1 ≤ rm.frames ∧ 8 + (maxL + 11) + rmy.locals ≤ rm.locals ∧ q.1 ≤ rm.cells ∧ q.2 ≤ rm.slots) (hst : st = As.reverse ++ .ref a :: rest) (hcat : (rest.map fun v => v.category).sum ≤ 8) (d : decode cc pc = .ok (.invokevirtual idx, 3)) (k : G g X q ws' (pc + 3) lv rest) : G g X q ws pc lv st := by
  obtain ⟨p, l, e, R, s, m, args, below, meth, c, A, n9, Q⟩ := X
  obtain ⟨hx, hb, hml, hown, hts, hE, hA, rfl, hr, hlk, rfl⟩ := C
  intro H locs ls hP hD hS hl
  have hF := va_A_in hD hS hA
  refine ctr_back (g := g) (r := none) (v := ws') (A1 := va_A ws H.size) (k := 0) (n := 0) (va_runV (As := As) (b := a) (rest := rest) (nL := n9) ⟨hx, hb, hml, hown, hts⟩ (hM l H.size) (cwV n hts hG hwy hR.1 hR.2.1 hd ⟨hR.2.2.1, hR.2.2.2.1⟩) ⟨ctr_blind g _ _ _, va_recv hE.1 hP hc he, fun U hU hW => ⟨rfl, by rw [hU], by rw [hU]; exact hP, by rw [hU]; exact ((hE.kept hS.2.1).narrow hF).warm hW, hD.weaken (fun _ _ _ _ => trivial)⟩⟩ rfl hn hl.1 hst (lv_room hcat) d ⟨hR.2.2.2.2.1, hR.2.2.2.2.2⟩) hS hF ?_
  intro H1 locs1 hP1 hD1 hz hk hS1
  exact k H1 locs1 ls hP1 (hD1.weaken (fun _ _ _ h => hF _ h)) hS1 hl
theorem g_callSv (C : Ok g X cc own Ts rm ret nL) {y : MethodName} {wsy ws9 : List Cond} {rmy : Room} {bytes : ByteArray} {maxL idx n : Nat} {rt : Option FieldType} {As st : List Value} (hM : Ctr g y wsy rmy As [] none [] 0 0) (hG : GoodIn Ts (va_wsS own idx y wsy)) (hwy : wsy = Cond.code y bytes maxL rt :: ws9) (hn : As.length = n) (hd : y.cls ≠ "java/lang/invoke/MethodHandle" ∧ y.cls ≠ "java/lang/invoke/VarHandle" ∧ (parseMethodDescriptor y.desc).map (fun d => d.parameters.length) = some n) (hR : rmy.cells = 0 ∧ rmy.slots = 0 ∧ rmy.frames + 1 ≤ rm.frames ∧ 8 + (maxL + 11) + rmy.locals ≤ rm.locals ∧ q.1 ≤ rm.cells ∧ q.2 ≤ rm.slots) (hst : st = As.reverse ++ rest) (hcat : (rest.map fun v => v.category).sum ≤ 8) (d : decode cc pc = .ok (.invokestatic idx, 3)) (k : G g X q ws (pc + 3) lv rest) : G g X q ws pc lv st := by
  obtain ⟨p, l, e, R, s, m, args, below, meth, c, A, n9, Q⟩ := X
  obtain ⟨hx, hb, hml, hown, hts, hE, hA, rfl, hr, hlk, rfl⟩ := C
  intro H locs ls hP hD hS hl
  have hF := va_A_nil hS hA
  refine ctr_back (g := g) (r := none) (v := []) (A1 := va_A [] H.size) (k := 0) (n := 0) (va_runS (As := As) (rest := rest) (nL := n9) ⟨hx, hb, hml, hown, hts⟩ (hM l H.size) (va_cwS n hts hG hwy hR.1 hR.2.1 hd ⟨hR.2.2.1, hR.2.2.2.1⟩) ⟨ctr_blind g _ _ _, fun U hU hW => ⟨rfl, by rw [hU], fun k q h => by simp at h, by rw [hU]; exact ((hE.kept hS.2.1).narrow hF).warm hW, ⟨fun i j p q h => by simp at h, fun k q h => by simp at h⟩⟩⟩ rfl hn hl.1 hst (lv_room hcat) d ⟨hR.2.2.2.2.1, hR.2.2.2.2.2⟩) hS hF ?_
  intro H1 locs1 hP1 hD1 hz hk hS1
  exact k H1 locs1 ls (hP.kept (fun j x hj => hk x.1 (hP j x hj).lt (va_A_0 (hP j x hj).lt))) hD hS1 hl
end GC
